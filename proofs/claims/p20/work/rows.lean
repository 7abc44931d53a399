section
-- ===== PART A: goes FIRST, ahead of the names: the tables' words, and 'selects' of the private methods out of them =====
/-- a private method of a class that the tables say can be made, by its rows of tables_1 -/
def lw_okq (q : MethodName × Nat) : Prop := (q.1.cls ≠ "java/lang/invoke/MethodHandle" ∧ q.1.cls ≠ "java/lang/invoke/VarHandle") ∧ Cond.instantiable q.1.cls q.2 ∈ tables_1 ∧ Cond.privateMethod q.1 ∈ tables_1 ∧ Cond.instanceMethod q.1 ∈ tables_1
theorem lw_p0 : lw_okq (⟨"java/lang/Throwable", "fillInStackTrace", "(I)Ljava/lang/Throwable;"⟩, 6) := ⟨⟨by decide +kernel, by decide +kernel⟩, List.mem_of_getElem? (i := 138) (by decide +kernel), List.mem_of_getElem? (i := 136) (by decide +kernel), List.mem_of_getElem? (i := 137) (by decide +kernel)⟩
theorem lw_p1 : lw_okq (⟨"FloodGrid$Plain", "spreadFrom", "(I)I"⟩, 15) := ⟨⟨by decide +kernel, by decide +kernel⟩, List.mem_of_getElem? (i := 21) (by decide +kernel), List.mem_of_getElem? (i := 191) (by decide +kernel), List.mem_of_getElem? (i := 192) (by decide +kernel)⟩
theorem lw_p2 : lw_okq (⟨"FloodGrid$Plain", "meet", "(II)I"⟩, 15) := ⟨⟨by decide +kernel, by decide +kernel⟩, List.mem_of_getElem? (i := 21) (by decide +kernel), List.mem_of_getElem? (i := 195) (by decide +kernel), List.mem_of_getElem? (i := 196) (by decide +kernel)⟩
theorem lw_p3 : lw_okq (⟨"FloodGrid$Plain", "above0", "([I)I"⟩, 15) := ⟨⟨by decide +kernel, by decide +kernel⟩, List.mem_of_getElem? (i := 21) (by decide +kernel), List.mem_of_getElem? (i := 218) (by decide +kernel), List.mem_of_getElem? (i := 219) (by decide +kernel)⟩
theorem lw_p4 : lw_okq (⟨"FloodGrid$Plain", "lakes", "()I"⟩, 15) := ⟨⟨by decide +kernel, by decide +kernel⟩, List.mem_of_getElem? (i := 21) (by decide +kernel), List.mem_of_getElem? (i := 222) (by decide +kernel), List.mem_of_getElem? (i := 223) (by decide +kernel)⟩
theorem lw_p5 : lw_okq (⟨"FloodGrid$Plain", "letRainFall", "()V"⟩, 15) := ⟨⟨by decide +kernel, by decide +kernel⟩, List.mem_of_getElem? (i := 21) (by decide +kernel), List.mem_of_getElem? (i := 257) (by decide +kernel), List.mem_of_getElem? (i := 258) (by decide +kernel)⟩
theorem lw_p6 : lw_okq (⟨"FloodGrid$Plain", "letWaterRun", "()V"⟩, 15) := ⟨⟨by decide +kernel, by decide +kernel⟩, List.mem_of_getElem? (i := 21) (by decide +kernel), List.mem_of_getElem? (i := 264) (by decide +kernel), List.mem_of_getElem? (i := 265) (by decide +kernel)⟩
theorem lw_p7 : lw_okq (⟨"FloodGrid$Plain", "lowestNeighbour", "(I)I"⟩, 15) := ⟨⟨by decide +kernel, by decide +kernel⟩, List.mem_of_getElem? (i := 21) (by decide +kernel), List.mem_of_getElem? (i := 268) (by decide +kernel), List.mem_of_getElem? (i := 269) (by decide +kernel)⟩
theorem lw_p8 : lw_okq (⟨"FloodGrid$Plain", "give", "(II)V"⟩, 15) := ⟨⟨by decide +kernel, by decide +kernel⟩, List.mem_of_getElem? (i := 21) (by decide +kernel), List.mem_of_getElem? (i := 272) (by decide +kernel), List.mem_of_getElem? (i := 273) (by decide +kernel)⟩
theorem lw_p9 : lw_okq (⟨"FloodGrid$Plain", "wearDams", "()V"⟩, 15) := ⟨⟨by decide +kernel, by decide +kernel⟩, List.mem_of_getElem? (i := 21) (by decide +kernel), List.mem_of_getElem? (i := 279) (by decide +kernel), List.mem_of_getElem? (i := 280) (by decide +kernel)⟩
theorem lw_p10 : lw_okq (⟨"FloodGrid$Plain", "drainCells", "()V"⟩, 15) := ⟨⟨by decide +kernel, by decide +kernel⟩, List.mem_of_getElem? (i := 21) (by decide +kernel), List.mem_of_getElem? (i := 283) (by decide +kernel), List.mem_of_getElem? (i := 284) (by decide +kernel)⟩
theorem lw_p11 : lw_okq (⟨"FloodGrid$Plain", "leaveTowns", "()V"⟩, 15) := ⟨⟨by decide +kernel, by decide +kernel⟩, List.mem_of_getElem? (i := 21) (by decide +kernel), List.mem_of_getElem? (i := 287) (by decide +kernel), List.mem_of_getElem? (i := 288) (by decide +kernel)⟩
theorem lw_p12 : lw_okq (⟨"FloodGridLaw$Sim", "spread", "([[ZII)I"⟩, 11) := ⟨⟨by decide +kernel, by decide +kernel⟩, List.mem_of_getElem? (i := 342) (by decide +kernel), List.mem_of_getElem? (i := 340) (by decide +kernel), List.mem_of_getElem? (i := 341) (by decide +kernel)⟩
def lw_privs_1 : List (MethodName × Nat) := [(⟨"java/lang/Throwable", "fillInStackTrace", "(I)Ljava/lang/Throwable;"⟩, 6), (⟨"FloodGrid$Plain", "spreadFrom", "(I)I"⟩, 15), (⟨"FloodGrid$Plain", "meet", "(II)I"⟩, 15), (⟨"FloodGrid$Plain", "above0", "([I)I"⟩, 15), (⟨"FloodGrid$Plain", "lakes", "()I"⟩, 15), (⟨"FloodGrid$Plain", "letRainFall", "()V"⟩, 15), (⟨"FloodGrid$Plain", "letWaterRun", "()V"⟩, 15), (⟨"FloodGrid$Plain", "lowestNeighbour", "(I)I"⟩, 15), (⟨"FloodGrid$Plain", "give", "(II)V"⟩, 15), (⟨"FloodGrid$Plain", "wearDams", "()V"⟩, 15), (⟨"FloodGrid$Plain", "drainCells", "()V"⟩, 15), (⟨"FloodGrid$Plain", "leaveTowns", "()V"⟩, 15), (⟨"FloodGridLaw$Sim", "spread", "([[ZII)I"⟩, 11)]
theorem lw_r1 : ∀ q ∈ lw_privs_1, lw_okq q := List.forall_mem_cons.mpr ⟨lw_p0, List.forall_mem_cons.mpr ⟨lw_p1, List.forall_mem_cons.mpr ⟨lw_p2, List.forall_mem_cons.mpr ⟨lw_p3, List.forall_mem_cons.mpr ⟨lw_p4, List.forall_mem_cons.mpr ⟨lw_p5, List.forall_mem_cons.mpr ⟨lw_p6, List.forall_mem_cons.mpr ⟨lw_p7, List.forall_mem_cons.mpr ⟨lw_p8, List.forall_mem_cons.mpr ⟨lw_p9, List.forall_mem_cons.mpr ⟨lw_p10, List.forall_mem_cons.mpr ⟨lw_p11, List.forall_mem_cons.mpr ⟨lw_p12, fun _ h => absurd h List.not_mem_nil⟩⟩⟩⟩⟩⟩⟩⟩⟩⟩⟩⟩⟩
def lw_privs : List (MethodName × Nat) := lw_privs_1
def lw_tbl : List Cond := k2_sels lw_privs ++ tables_1
theorem lw_privs_ok : ∀ q ∈ lw_privs, lw_okq q := lw_r1
/-- the streams that the claim lets the run draw from -/
abbrev lw_cs : List Choice := [Jvm.Choice.named "NaN.bits"]
theorem lw_bits : nanBits ∈ lw_cs := by first | decide | exact List.mem_cons_self | simp [lw_cs, nanBits]
-- ===== end of PART A; then your names; then what follows =====
end
section
/-! what the tables say of rows of rows of t (the printed text 'new T[n][m]' calls it by this name and doesn't print it) -/
def va_AOA (t : FieldType) (U : State) : Prop := (Cond.arrayOver (.array t)).before #[] U = true
theorem va_AOA.of {t : FieldType} {A : Array Value} {U : State} (h : (Cond.arrayOver (.array t)).before A U = true) : va_AOA t U := h
theorem va_AOA.use {t : FieldType} {A : Array Value} {U : State} (h : va_AOA t U) : (Cond.arrayOver (.array t)).before A U = true := h
theorem va_AOA.moved {t : FieldType} {u U : State} (hvm : u.vm.Alike U.vm) (h : va_AOA t u) : va_AOA t U := by
  obtain ⟨comp, c, k, h1, h2, h3, h4, h5⟩ := arrayOverA_spec h
  obtain ⟨k', hk', he⟩ := hvm.2.2 _ _ h3
  have hi : (U.vm.classes.findIdx? fun (x : Class) => match x.kind with | .array component _ => component == comp | _ => false) = some c := by
    rw [hvm.findIdx?_eq _ (fun _ => rfl)]
    exact h2
  have hkind : k'.kind = .array comp (.array t) := by rw [he]; exact h4
  have f1 : U.vm.findClass (FieldType.array t).toString = some comp := by rw [hvm.findClass]; exact h1
  have f2 : U.vm.findClass ("[" ++ (FieldType.array t).toString) = some c := by rw [hvm.findClass]; exact h5
  unfold va_AOA Cond.before Cond.holds
  simp only [Cond.value]
  rw [f1, Option.bind_some]
  refine (congrArg (fun o : Option Nat => (o.bind (fun c => (U.vm.classes[c]?).map fun (k : Class) => match k.kind with | .array _ ty => decide (ty = FieldType.array t) && decide (U.vm.findClass ("[" ++ (FieldType.array t).toString) = some c) | _ => false) == some true)) hi).trans ?_
  simp [hk', hkind, f2]
end
section
/-! ===== BEGIN words of one list among another's, by their places ===== -/
theorem goodIn_r {big : List Cond} (ws : List Cond) (ps : List Nat) (hp : ws = ps.filterMap (fun i => big[i]?)) (h : ws.all goodWord = true) : GoodIn big ws := by
  intro w hw
  have h1 := List.all_eq_true.mp h w hw
  rw [hp] at hw
  obtain ⟨i, -, hi⟩ := List.mem_filterMap.mp hw
  have hm : w ∈ big := by first | exact List.mem_of_getElem? hi | exact List.getElem?_mem hi
  exact ⟨hm, good_of_word h1⟩
theorem goodIn_app {big a b : List Cond} (ha : GoodIn big a) (hb : GoodIn big b) : GoodIn big (a ++ b) := fun w h => (List.mem_append.mp h).elim (ha w) (hb w)
theorem goodIn_ca {big a b : List Cond} {c : Cond} (ha : GoodIn big (c :: a)) (hb : GoodIn big b) : GoodIn big (c :: (a ++ b)) := fun w h => (List.mem_cons.mp h).elim (fun e => ha w (List.mem_cons.mpr (Or.inl e))) (fun h => (List.mem_append.mp h).elim (fun h => ha w (List.mem_cons.mpr (Or.inr h))) (hb w))
theorem goodIn_sub {big ws : List Cond} (hm : ∀ w ∈ ws, w ∈ big) (h : ws.all goodWord = true) : GoodIn big ws := fun w hw => ⟨hm w hw, good_of_word (List.all_eq_true.mp h w hw)⟩
/-! ===== END ===== -/

/-! ===== BEGIN new T[n][m]: the outer array a place, the inner ones among the pooled ===== -/
/-- f, but v at every address of l -/
def vr_up {α : Type} (f : Nat → α) (l : List Nat) (v : α) : Nat → α := fun a => if a ∈ l then v else f a
theorem vr_up_in {α : Type} {f : Nat → α} {l : List Nat} {v : α} {a : Nat} (h : a ∈ l) : vr_up f l v a = v := if_pos h
theorem vr_up_ne {α : Type} {f : Nat → α} {l : List Nat} {v : α} {a : Nat} (h : a ∉ l) : vr_up f l v a = f a := if_neg h
theorem vr_rows {L l : List Nat} {f : Nat → va_E} {e : va_E} (h : ∀ a, a ∈ l → a ∉ L) : va_pl L f ++ l.map (fun a => (a, e)) = va_pl (L ++ l) (vr_up f l e) := by
  unfold va_pl
  rw [List.map_append]
  congr 1
  · apply List.map_congr_left
    intro a ha
    rw [vr_up_ne (fun q => h a q ha)]
  · apply List.map_congr_left
    intro a ha
    rw [vr_up_in ha]
theorem vr_lay {X rows : va_W} {x : Nat × va_E} {pl : va_W} {D : va_G} {cl : List vw_C} {H : Heap} (hP : va_P D cl (((X ++ pl) ++ [x]) ++ rows) H) : va_P D cl ((X ++ [x]) ++ (pl ++ rows)) H := by
  rw [List.append_assoc (X ++ pl)] at hP
  have h := va_P.swap hP
  rw [← List.append_assoc X] at h
  have h2 := va_P.swap h
  rw [List.append_assoc (X ++ [x])] at h2
  exact h2
theorem vr_layD {X rows : va_W} {x : Nat × va_E} {pl : va_W} {A : Nat → Prop} (hD : va_D A (((X ++ pl) ++ [x]) ++ rows)) : va_D A ((X ++ [x]) ++ (pl ++ rows)) := by
  rw [List.append_assoc (X ++ pl)] at hD
  have h := va_D.swap hD
  rw [← List.append_assoc X] at h
  have h2 := va_D.swap h
  rw [List.append_assoc (X ++ [x])] at h2
  exact h2
theorem vr_outer (c : ClassId) (N h0 : Nat) : ∀ i : Nat, Jvm.Free.Multi.outerC c N h0 i = arrV c N (fun j => va_rf (if j < i then some (h0 + 1 + j) else none))
  | 0 => by
    show ({ cls := c, slots := Array.replicate N .null, vm := .none } : Cell) = _
    rw [arrV_new]
    refine congrArg (arrV c N) (funext fun j => ?_)
    simp [va_rf]
  | i + 1 => by
    show (Jvm.Free.Multi.outerC c N h0 i).setSlot i (.ref (h0 + 1 + i)) = _
    rw [vr_outer c N h0 i, arrV_store]
    refine congrArg (arrV c N) (funext fun j => ?_)
    by_cases e : j = i
    · subst e
      simp [updV, va_rf]
    · by_cases h : j < i
      · simp [updV, e, h, Nat.lt_succ_of_lt h]
      · simp [updV, e, h, show ¬ j < i + 1 by omega]
section VGM
variable {p : Program} {l : Launch} {e : Env} {R : Room} {s : State} {m : MethodId} {args : Array Value} {below : List Frame} {meth : Method} {c : Code} {H : Heap} {locs : List Loc} {cells slots : Nat} {Q : State → Prop}
variable {cc : ByteArray} {pc : Nat} {ls : Array Slot} {rest : List Value} {D : va_G} {cl : List vw_C} {A : Nat → Prop} {a : Nat} {tys : List (ClassId × FieldType)} {ws : va_W} {H0 : Heap}
theorem va_mna {X : va_W} {L : List Nat} {f : Nat → va_E} {cc : ByteArray} (hexec : p.tables.exec = Jvm.exec) (hb : c.code = cc) {own : String} {index : Nat} {ty : FieldType} {cy : ClassId} (hown : s.vm.findClass own = some m.cls) (hclink : (Cond.classLink own index ("[" ++ (FieldType.array ty).toString)).before args s = true) (hover : va_AOA ty s) (harr : (Cond.arrayClass ty).before args s = true) (hcy : s.vm.findClass (FieldType.array ty).toString = some cy)
    (hK : va_K D cl tys s) (hP : va_P D cl (X ++ va_pl L f) H) (hD : va_D A (X ++ va_pl L f)) (hS : va_S A H0 H locs) (hA : ∀ q, H0.size ≤ q → A q) {n k : Int32} {N' K' : Nat} {z : vp_A} (hn : ¬ n < 0) (hk : ¬ k < 0) (hN : n.toNatClampNeg = N') (hM : k.toNatClampNeg = K')
    (hb1 : N' * 4 ≤ 536870912) (hb2 : K' * componentBytes ty ≤ 536870912) (hb3 : K' ≤ 536870912) (hdf : fits ty (defaultValue ty) = true) (hdd : (defaultValue ty).isDefault = true) (hcells : cells + (1 + N') ≤ R.cells) (hslots : slots + (N' + N' * K') ≤ R.slots) (hz : ∀ c : ClassId, Jvm.Free.Multi.innerC c K' (defaultValue ty) = vp_cell c z) (hdg : decode cc pc = .ok (.multianewarray index 2, 4))
    (kk : ∀ (q : Nat) (r : Nat → Nat) (cA : ClassId) (H1 : Heap), (∀ i j : Nat, i < N' → j < N' → r i = r j → i = j) → (∀ i : Nat, i < N' → r i ∉ L) → va_K D cl (tys ++ [(cA, .array ty)]) s →
      va_P D cl ((X ++ [(q, .inl (cA, N', .inr (.inr (.inr (.inr (fun i => if i < N' then some (r i) else none))))))]) ++ va_pl (L ++ (List.range N').map r) (vr_up f ((List.range N').map r) (.inl (cy, z)))) H1 → va_D A ((X ++ [(q, .inl (cA, N', .inr (.inr (.inr (.inr (fun i => if i < N' then some (r i) else none))))))]) ++ va_pl (L ++ (List.range N').map r) (vr_up f ((List.range N').map r) (.inl (cy, z)))) → va_S A H0 H1 locs →
      W p l e R s m args below meth c H1 locs (cells + 1 + N') (slots + N' + N' * K') Q (F0 m (pc + 4) ls (.ref q :: rest))) : W p l e R s m args below meth c H locs cells slots Q (F0 m pc ls (.int k :: .int n :: rest)) := by
  subst hN
  subst hM
  intro T hT Xs
  obtain ⟨vm₁, cA, comp, -, fA, fC, hO, -, X', step⟩ := Xs.multianewarray2F hexec hown hclink (va_AOA.use hover) harr (g := F0 m pc ls (.int k :: .int n :: rest)) rfl (by rw [hb]; exact hdg) rfl hn hk hb1 hb2 hb3 hdf hdd hcells hslots
  have ec : some cy = some comp := hcy.symm.trans fC
  cases ec
  generalize hF : Jvm.Free.Multi.fill (T.setVm vm₁) cA cy n.toNatClampNeg k.toNatClampNeg (defaultValue ty) n.toNatClampNeg = F at X' step
  have hTh : (T.setVm vm₁).heap = H := hT
  obtain ⟨f1, f2, -, -⟩ := Jvm.Free.Multi.fill_facts (T.setVm vm₁) cA cy n.toNatClampNeg k.toNatClampNeg (defaultValue ty) n.toNatClampNeg
  rw [hF, hTh] at f1 f2
  have hold : ∀ x : Nat, x < H.size → F.heap[x]? = H[x]? := fun x hx => by
    have := Jvm.Free.Multi.fill_old (T.setVm vm₁) cA cy n.toNatClampNeg k.toNatClampNeg (defaultValue ty) (a := x) (by rw [hTh]; exact hx) n.toNatClampNeg
    rw [hF, hTh] at this
    exact this
  have hrow : ∀ j : Nat, j < n.toNatClampNeg → F.heap[H.size + 1 + j]? = some (vp_cell cy z) := fun j hj => by
    have := Jvm.Free.Multi.fill_inner (T.setVm vm₁) cA cy n.toNatClampNeg k.toNatClampNeg (defaultValue ty) n.toNatClampNeg j hj
    rw [hF, hTh, hz] at this
    exact this
  have hout : Jvm.Free.Multi.outerC cA n.toNatClampNeg H.size n.toNatClampNeg = vp_cell cA (n.toNatClampNeg, .inr (.inr (.inr (.inr (fun i => if i < n.toNatClampNeg then some (H.size + 1 + i) else none))))) := by
    rw [vp_cell_q]
    exact vr_outer cA n.toNatClampNeg H.size n.toNatClampNeg
  rw [hout] at f2
  have hlt : ∀ a, a ∈ L → a < H.size := fun a ha => by
    obtain ⟨k9, hk9⟩ := va_pl_get (X := X) (f := f) ha
    exact (hP k9 _ hk9).lt
  have hnl : ∀ i : Nat, i < n.toNatClampNeg → H.size + 1 + i ∉ L := fun i _ h => by
    have := hlt _ h
    omega
  have hnm : ∀ a, a ∈ (List.range n.toNatClampNeg).map (fun i => H.size + 1 + i) → a ∉ L := fun a ha h => by
    obtain ⟨i, -, rfl⟩ := List.mem_map.mp ha
    have := hlt _ h
    omega
  have hP0 : va_P D cl (X ++ va_pl L f) F.heap := hP.kept (fun k9 x hx => hold x.1 ((hP k9 x hx).lt))
  have hP1 : va_P D cl ((X ++ va_pl L f) ++ [(H.size, .inl (cA, n.toNatClampNeg, .inr (.inr (.inr (.inr (fun i => if i < n.toNatClampNeg then some (H.size + 1 + i) else none))))))]) F.heap := hP0.app (fun k9 x hx => by
    have h0 : k9 < 1 := (List.getElem?_eq_some_iff.mp hx).1
    rw [show k9 = 0 by omega] at hx
    cases hx
    exact f2)
  have hP2 : va_P D cl (((X ++ va_pl L f) ++ [(H.size, .inl (cA, n.toNatClampNeg, .inr (.inr (.inr (.inr (fun i => if i < n.toNatClampNeg then some (H.size + 1 + i) else none))))))]) ++ ((List.range n.toNatClampNeg).map (fun i => H.size + 1 + i)).map (fun a => (a, .inl (cy, z)))) F.heap := hP1.app (fun k9 x hx => by
    obtain ⟨a, ha, rfl⟩ := List.mem_map.mp (List.mem_of_getElem? hx)
    obtain ⟨i, hi, rfl⟩ := List.mem_map.mp ha
    exact hrow i (List.mem_range.mp hi))
  have hD2 : va_D A (((X ++ va_pl L f) ++ [(H.size, .inl (cA, n.toNatClampNeg, .inr (.inr (.inr (.inr (fun i => if i < n.toNatClampNeg then some (H.size + 1 + i) else none))))))]) ++ ((List.range n.toNatClampNeg).map (fun i => H.size + 1 + i)).map (fun a => (a, .inl (cy, z)))) := by
    have hD1 := hD.push (e := .inl (cA, n.toNatClampNeg, .inr (.inr (.inr (.inr (fun i => if i < n.toNatClampNeg then some (H.size + 1 + i) else none)))))) hP rfl (hA _ hS.1)
    generalize hW1 : (X ++ va_pl L f) ++ [(H.size, .inl (cA, n.toNatClampNeg, .inr (.inr (.inr (.inr (fun i => if i < n.toNatClampNeg then some (H.size + 1 + i) else none))))))] = W1 at hD1 hP1 ⊢
    have hle : ∀ (k9 : Nat) (x : Nat × va_E), W1[k9]? = some x → x.1 ≤ H.size := fun k9 x hx => by
      rw [← hW1] at hx
      by_cases hl : k9 < (X ++ va_pl L f).length
      · rw [List.getElem?_append_left hl] at hx
        exact Nat.le_of_lt ((hP k9 x hx).lt)
      · rw [List.getElem?_append_right (by omega)] at hx
        have h0 : k9 - (X ++ va_pl L f).length < 1 := (List.getElem?_eq_some_iff.mp hx).1
        rw [show k9 - (X ++ va_pl L f).length = 0 by omega] at hx
        cases hx
        exact Nat.le_refl _
    have hr : ∀ (k9 : Nat) (x : Nat × va_E), (((List.range n.toNatClampNeg).map (fun i => H.size + 1 + i)).map (fun a => ((a, .inl (cy, z)) : Nat × va_E)))[k9]? = some x → x.1 = H.size + 1 + k9 := fun k9 x hx => by
      rw [List.getElem?_map, List.getElem?_map] at hx
      by_cases h9 : k9 < n.toNatClampNeg
      · rw [List.getElem?_range h9] at hx
        cases hx
        rfl
      · have hn0 : (List.range n.toNatClampNeg)[k9]? = none := List.getElem?_eq_none (by rw [List.length_range]; omega)
        rw [hn0] at hx
        cases hx
    refine ⟨fun i j x y hi hj hxy => ?_, fun k9 x hx => ?_⟩
    · by_cases h1 : i < W1.length <;> by_cases h2 : j < W1.length
      · rw [List.getElem?_append_left h1] at hi
        rw [List.getElem?_append_left h2] at hj
        exact hD1.1 i j x y hi hj hxy
      · rw [List.getElem?_append_left h1] at hi
        rw [List.getElem?_append_right (by omega)] at hj
        have := hle _ _ hi
        have := hr _ _ hj
        omega
      · rw [List.getElem?_append_right (by omega)] at hi
        rw [List.getElem?_append_left h2] at hj
        have := hle _ _ hj
        have := hr _ _ hi
        omega
      · rw [List.getElem?_append_right (by omega)] at hi hj
        have := hr _ _ hi
        have := hr _ _ hj
        omega
    · by_cases h1 : k9 < W1.length
      · rw [List.getElem?_append_left h1] at hx
        exact hD1.2 k9 x hx
      · rw [List.getElem?_append_right (by omega)] at hx
        have := hr _ _ hx
        exact hA _ (by have := hS.1; omega)
  have hAr : ArrOfT s cA (.array ty) := fun N9 z9 => by
    obtain ⟨-, k9, hk9, cm9, hkk9⟩ := (hO 0 0 0).1
    exact ⟨(fun q hq => by cases hq), k9, hk9, cm9, hkk9⟩
  have hK2 : va_K D cl (tys ++ [(cA, .array ty)]) s := ⟨hK.1, fun k9 x hx => by
    by_cases hl : k9 < tys.length
    · rw [List.getElem?_append_left hl] at hx
      exact hK.2 k9 x hx
    · rw [List.getElem?_append_right (by omega)] at hx
      have h0 : k9 - tys.length < 1 := (List.getElem?_eq_some_iff.mp hx).1
      rw [show k9 - tys.length = 0 by omega] at hx
      cases hx
      exact ⟨hAr, fA⟩⟩
  obtain ⟨t, a1, b1⟩ := kk H.size (fun i => H.size + 1 + i) cA F.heap (fun i j _ _ h => by have h9 : H.size + 1 + i = H.size + 1 + j := h; omega) hnl hK2 (by rw [← vr_rows hnm]; exact vr_lay hP2) (by rw [← vr_rows hnm]; exact vr_layD hD2) ⟨by rw [f1]; have := hS.1; omega, fun x h1 h2 => (hold x (Nat.lt_of_lt_of_le h1 hS.1)).trans (hS.2.1 x h1 h2), hS.2.2⟩ F rfl X'
  refine ⟨t, step t ?_, b1⟩
  have e : T.heap.size = H.size := by rw [hT]
  rw [e]
  exact a1
end VGM
/-! ===== END ===== -/

/-! ===== BEGIN exceptions that leave a method, and their catching by the caller (launches without stack traces) ===== -/
section VXA
/-! The laws vx_back, vx_callV, vx_callS, vx_callSW, vx_throw0, vx_throwS follow proofs of the library, with one case more: JvmDerived/Free/Laws.lean (Back.of_free), Shelf42/LK1.lean (callV, callS), Shelf/KitTraced.lean (throwNew0V, throwNewS). -/
/-- where a method has thrown q: the class by its name, the cell, what was written, the world -/
def vx_T (XC : String → State → State → Prop) (st : State) (q : Addr) (t : State) (mc ms : Nat) (free : Addr → Prop) : Prop :=
  ∃ (E : String) (ce : Cell) (L : List Loc), XC E st t ∧ t.heap[q]? = some ce ∧ ce.vm = .none ∧ st.vm.findClass E = some ce.cls ∧ st.WarmedH t.vm ∧ st.sameButNew ({ t with vm := st.vm } : State) L mc ms ∧ ∀ z ∈ L, free z.base
def vx_Q (Qc : Array Value → State → Outcome → State → Prop) (XC : String → State → State → Prop) (mc ms : Nat) (free : Addr → Prop) : Array Value → State → Outcome → State → Prop := fun a st o t =>
  (Qc a st o t ∧ ∃ L, FrameEnd st o t L mc ms ∧ ∀ q ∈ L, free q.base) ∨ ∃ q, o = .threw q ∧ vx_T XC st q t mc ms free
/-- a callee that returns or throws -/
def vx_Met (l : Launch) (y : MethodName) (ws : List Cond) (rm : Room) (Pc : Array Value → State → Prop) (Qc : Array Value → State → Outcome → State → Prop) (XC : String → State → State → Prop) (mc ms : Nat) (free : Addr → Prop) : Prop :=
  MetFree l y (headSpec ws rm) Pc (fun _ _ _ _ _ => True) (vx_Q Qc XC mc ms free)
def vx_Post (XC : String → State → State → Prop) (mc ms : Nat) (free : Addr → Prop) : Pt → Array Value → Addr → Pt → Prop := fun A a q B =>
  ∃ (g : JFrame) (mk : MethodId) (t : State) (L : List Loc) (E : String) (ce : Cell), B.U.heap = t.heap ∧ B.U.vm = t.vm ∧ XC E (A.U.calling g mk a) t ∧ t.heap[q]? = some ce ∧ ce.vm = .none ∧ A.U.vm.findClass E = some ce.cls ∧ B.locs = A.locs ++ L ∧ (∀ z ∈ L, free z.base) ∧ B.cells = A.cells + mc ∧ B.slots = A.slots + ms
def vx_Back (l : Launch) (R : Room) (p : Program) (e : Env) (below : List Frame) (s : State) (sargs : Array Value) (y : MethodName) (len W9 : Nat)
    (Pre : Pt → Array Value → Prop) (Post : Pt → Array Value → Option Value → Pt → Prop) (PostX : Pt → Array Value → Addr → Pt → Prop) : Prop :=
  ∀ (m : MethodId) (meth : Method) (c : Code) (A : Pt) (g : JFrame) (ig : Instr) (mk : MethodId) (a : Array Value),
    Stand p l e R s m sargs below meth c A.U A.locs A.cells A.slots → g.method = m → g.locals.size = c.maxLocals → decode c.code g.pc = .ok (ig, len) →
    2 * g.monitorRoom + (g.stack.map fun v => v.category).sum ≤ W9 → A.U.methodNamed? y = some mk → Pre A a →
    (∃ (v : Option Value) (B : Pt), Stand p l e R s m sargs below meth c B.U B.locs B.cells B.slots ∧ Post A a v B ∧
      Steps p.tables e below (doInvoke e (A.U.setTop g) [] mk a).1 (B.U.setTop { g with pc := g.pc + len, stack := v.toList ++ g.stack })) ∨
    (∃ (q : Addr) (B : Pt), Stand p l e R s m sargs below meth c B.U B.locs B.cells B.slots ∧ PostX A a q B ∧
      Steps p.tables e below (doInvoke e (A.U.setTop g) [] mk a).1 ((B.U.setTop g).pushFrame (.throwing q)))
section Payer
variable {l : Launch} {R : Room} {p : Program} {e : Env} {below : List Frame} {s : State} {sargs : Array Value} {y : MethodName} {len W9 : Nat}
theorem vx_back {ws : List Cond} {rm : Room} {Pc : Array Value → State → Prop} {Qc : Array Value → State → Outcome → State → Prop} {XC : String → State → State → Prop} {mc ms : Nat} {free : Addr → Prop} {bytes : ByteArray} {maxL : Nat} {ret : Option FieldType}
    (hM : vx_Met l y ws rm Pc Qc XC mc ms free) (hblind : FrameBlind Pc) (hrc : rm.cells = mc) (hrs : rm.slots = ms)
    (hframes : rm.frames + 1 ≤ R.frames) (hlocals : W9 + (maxL + 11) + rm.locals ≤ R.locals)
    (hws : ∀ w ∈ ws, ∀ a' U, s.WarmedH U.vm → w.before a' U = true) (hcode : Cond.code y bytes maxL ret ∈ ws) (hinit : ∀ a' U, s.WarmedH U.vm → (Cond.initialized y.cls).before a' U = true) :
    vx_Back l R p e below s sargs y len W9 (PreOf R mc ms Pc) (PostOf Qc mc ms free) (vx_Post XC mc ms free) := by
  intro m meth c A g ig mk a X hg hsize hdg hW hn hp
  have h1 : (headSpec ws rm).pre.before a A.U = true := atoms_intro fun w hw => hws w hw _ _ X.warmed
  have h2 : (Cond.code y bytes maxL ret).before a A.U = true := hws _ hcode _ _ X.warmed
  have h3 : (Cond.initialized y.cls).before a A.U = true := hinit _ _ X.warmed
  have h4 : A.cells + (headSpec ws rm).room.cells ≤ R.cells := by rw [show (headSpec ws rm).room.cells = mc from hrc]; exact hp.1
  have h5 : A.slots + (headSpec ws rm).room.slots ≤ R.slots := by rw [show (headSpec ws rm).room.slots = ms from hrs]; exact hp.2.1
  have hPc : Pc a (A.U.calling g mk a) := hblind _ _ _ _ hp.2.2
  obtain ⟨U, Ls, c0, s0⟩ := A
  dsimp only [Pt.U, Pt.locs, Pt.cells, Pt.slots] at h1 h2 h3 h4 h5 X hn hPc ⊢
  obtain ⟨methY, cY, hmY, hcY, -, hlY, -, -, -, -⟩ := Cond.code_spec hn h2
  obtain ⟨kY, hkY, -⟩ := className_of_methodNamed hn
  have hinitY : kY.init = .initialized := Cond.initialized_spec (findClass_of_methodNamed hn) hkY h3
  have h : At U g.method c below := by rw [hg]; exact X.here
  have hlocals9 : W9 + (maxL + 11) + (headSpec ws rm).room.locals ≤ R.locals := hlocals
  have happ : (headSpec ws rm).appliesLoose y e.platform (U.calling g mk a) = true :=
    Spec.appliesLoose_calling (g := g) h hdg hn hkY hinitY
      (X.room_calling (g := g) (R' := (headSpec ws rm).room) hsize hmY hcY hframes (by rw [hlY]; omega) h4 h5) h1
  obtain ⟨mid, hmid⟩ := h.above
  have hfr : (U.setTop g).frames = (.java g :: mid) ++ below := by rw [State.frames_setTop' g h.top, hmid]; rfl
  obtain ⟨o, s₂, hsteps, -, hend, hq⟩ := Steps.callFree hM p X.admits X.cas X.clock (acts := []) hfr happ hPc trivial
  have hq' : vx_Q Qc XC mc ms free a (U.calling g mk a) o s₂ := hq
  rw [State.frames_setTop' g h.top] at hend
  obtain ⟨g₀, hg0⟩ := Option.isSome_iff_exists.mp h.top
  obtain ⟨r, hr⟩ := State.topJava?_eq_some.mp hg0
  have hr' : (({ U with heap := s₂.heap, slotsUsed := s₂.slotsUsed } : State).setVm s₂.vm).frames = .java g₀ :: r := hr
  rcases hq' with ⟨hqc, L, hfe, hL⟩ | ⟨q, rfl, E, ce, L, hx, hce, hcv, hcl, hW₂, hsm, hL⟩
  · obtain ⟨⟨v, rfl⟩, hW₂, e2, q2, q3, q4, q5, q6⟩ := id hfe
    have e3 : s₂ = ({ (U.calling g mk a).setFrames s₂.frames with heap := s₂.heap, slotsUsed := s₂.slotsUsed } : State).setVm s₂.vm := by
      have : s₂ = ({ s₂ with vm := (U.calling g mk a).vm } : State).setVm s₂.vm := rfl
      rw [e2] at this
      exact this
    obtain ⟨c₂, i₂, len₂, hc₂, hd₂, hf₂⟩ := hend
    have hW' : U.WarmedH s₂.vm := hW₂
    have hcc : c₂ = c := by
      have h1 : s₂.code? g.method = U.code? g.method := by
        rw [State.code?_eq, State.code?_eq, hW'.alike.method?]
      exact Option.some.inj (hc₂.symm.trans (h1.trans h.code))
    subst hcc
    have hlen : len₂ = len := by rw [hdg] at hd₂; cases hd₂; rfl
    subst hlen
    have hs₂ : s₂ = (({ U with heap := s₂.heap, slotsUsed := s₂.slotsUsed } : State).setVm s₂.vm).setTop { g with pc := g.pc + len₂, stack := v.toList ++ g.stack } := by
      refine e3.trans ?_
      rw [hf₂, State.calling_eq h.top, State.setFrames_setFrames, State.setTop_of_frames _ hr', hr]
      rfl
    have hsame : U.sameButNew ({ U with heap := s₂.heap, slotsUsed := s₂.slotsUsed } : State) L mc ms := by
      refine ⟨?_, q2, q3, q4, q5, q6⟩
      obtain ⟨t, ht, -⟩ := State.frames_cons hr
      show ({ U with heap := s₂.heap, slotsUsed := s₂.slotsUsed } : State) = { U.setFrames U.frames with heap := s₂.heap, slotsUsed := s₂.slotsUsed }
      rw [State.setFrames_self ht]
    subst hg
    refine Or.inl ⟨v, ⟨(({ U with heap := s₂.heap, slotsUsed := s₂.slotsUsed } : State).setVm s₂.vm), Ls ++ L, c0 + mc, s0 + ms⟩,
      ⟨X.admits, X.cas, X.clock, X.frames, X.room, X.hears, X.method, X.code, (X.here.setHeapUsed s₂.heap s₂.slotsUsed).setVm hW'.alike, X.tail, State.WarmedH.trans X.warmed hW', X.limits, X.bytes, X.same.trans (hsame.setVm s.vm)⟩,
      ⟨g, mk, s₂, L, rfl, rfl, hqc, rfl, hL, rfl, rfl⟩, ?_⟩
    show Steps p.tables e below _ ((({ U with heap := s₂.heap, slotsUsed := s₂.slotsUsed } : State).setVm s₂.vm).setTop { g with pc := g.pc + len₂, stack := v.toList ++ g.stack })
    rw [← hs₂]
    exact hsteps
  · obtain ⟨e2, q2, q3, q4, q5, q6⟩ := id hsm
    have e3 : s₂ = ({ (U.calling g mk a).setFrames s₂.frames with heap := s₂.heap, slotsUsed := s₂.slotsUsed } : State).setVm s₂.vm := by
      have : s₂ = ({ s₂ with vm := (U.calling g mk a).vm } : State).setVm s₂.vm := rfl
      rw [e2] at this
      exact this
    have hf₂ : s₂.frames = .throwing q :: .java g :: U.frames.tail := hend
    have hW' : U.WarmedH s₂.vm := hW₂
    have hs₂ : s₂ = ((({ U with heap := s₂.heap, slotsUsed := s₂.slotsUsed } : State).setVm s₂.vm).setTop g).pushFrame (.throwing q) := by
      refine e3.trans ?_
      rw [hf₂, State.calling_eq h.top, State.setFrames_setFrames, State.pushFrame, State.frames_setTop _ hr', State.setTop_of_frames _ hr', State.setFrames_setFrames, hr]
      rfl
    have hsame : U.sameButNew ({ U with heap := s₂.heap, slotsUsed := s₂.slotsUsed } : State) L mc ms := by
      refine ⟨?_, q2, q3, q4, q5, q6⟩
      obtain ⟨t, ht, -⟩ := State.frames_cons hr
      show ({ U with heap := s₂.heap, slotsUsed := s₂.slotsUsed } : State) = { U.setFrames U.frames with heap := s₂.heap, slotsUsed := s₂.slotsUsed }
      rw [State.setFrames_self ht]
    subst hg
    refine Or.inr ⟨q, ⟨(({ U with heap := s₂.heap, slotsUsed := s₂.slotsUsed } : State).setVm s₂.vm), Ls ++ L, c0 + mc, s0 + ms⟩,
      ⟨X.admits, X.cas, X.clock, X.frames, X.room, X.hears, X.method, X.code, (X.here.setHeapUsed s₂.heap s₂.slotsUsed).setVm hW'.alike, X.tail, State.WarmedH.trans X.warmed hW', X.limits, X.bytes, X.same.trans (hsame.setVm s.vm)⟩,
      ⟨g, mk, s₂, L, E, ce, rfl, rfl, hx, hce, hcv, hcl, rfl, hL, rfl, rfl⟩, ?_⟩
    show Steps p.tables e below _ (((({ U with heap := s₂.heap, slotsUsed := s₂.slotsUsed } : State).setVm s₂.vm).setTop g).pushFrame (.throwing q))
    rw [← hs₂]
    exact hsteps
end Payer
section Calls
variable {p : Program} {l : Launch} {e : Env} {R : Room} {s : State} {m : MethodId} {args : Array Value} {below : List Frame} {meth : Method} {c : Code} {T : State} {locs : List Loc} {cells slots : Nat}
theorem vx_callV (X : Stand p l e R s m args below meth c T locs cells slots) (hexec : p.tables.exec = Jvm.exec) {own C : String} {index : Nat} {y : MethodName} {bytes : ByteArray} {maxL : Nat} {ret : Option FieldType}
    (hown : s.vm.findClass own = some m.cls) (hlink : (Cond.methodLink own index y).before args s = true) (hinst : (Cond.instanceMethod y).before args s = true) (hsel : (Cond.selects C y y).before args s = true)
    (hcode : (Cond.code y bytes maxL ret).before args s = true) (hy : y.cls ≠ "java/lang/invoke/MethodHandle" ∧ y.cls ≠ "java/lang/invoke/VarHandle")
    {W9 : Nat} {Pre : Pt → Array Value → Prop} {Post : Pt → Array Value → Option Value → Pt → Prop} {PostX : Pt → Array Value → Addr → Pt → Prop} (hK : vx_Back l R p e below s args y 3 W9 Pre Post PostX)
    {b : Addr} {cellB : Cell} (hcell : T.heap[b]? = some cellB) (hobj : cellB.vm.isStatics = false) (hcls : s.vm.findClass C = some cellB.cls)
    {g : JFrame} (hg : g.method = m) (hsize : g.locals.size = c.maxLocals) {argsL rest : List Value} (hlen : ∀ sig, parseMethodDescriptor y.desc = some sig → argsL.length = sig.parameters.length)
    (hstack : g.stack = argsL.reverse ++ .ref b :: rest) (hW : 2 * g.monitorRoom + (rest.map fun v => v.category).sum ≤ W9) (hdg : decode c.code g.pc = .ok (.invokevirtual index, 3))
    (hpre : ∀ vm₁, s.WarmedH vm₁ → Pre ⟨T.setVm vm₁, locs, cells, slots⟩ (Value.ref b :: argsL).toArray) :
    (∃ (v : Option Value) (vm₁ : Vm) (B : Pt), s.WarmedH vm₁ ∧ Stand p l e R s m args below meth c B.U B.locs B.cells B.slots ∧ Post ⟨T.setVm vm₁, locs, cells, slots⟩ (Value.ref b :: argsL).toArray v B ∧
      ∀ target, Steps p.tables e below (B.U.setTop { g with pc := g.pc + 3, stack := v.toList ++ rest }) target → Steps p.tables e below (T.setTop g) target) ∨
    (∃ (q : Addr) (vm₁ : Vm) (B : Pt), s.WarmedH vm₁ ∧ Stand p l e R s m args below meth c B.U B.locs B.cells B.slots ∧ PostX ⟨T.setVm vm₁, locs, cells, slots⟩ (Value.ref b :: argsL).toArray q B ∧
      Steps p.tables e below (T.setTop g) ((B.U.setTop { g with stack := rest }).pushFrame (.throwing q))) := by
  obtain ⟨mk, methM, hnamed, hmethM, hstM, habM⟩ := Cond.instanceMethod_spec hinst
  obtain ⟨methM', cM, hmethM', -, -, -, -, -, -, hsigM⟩ := Cond.code_spec hnamed hcode
  cases hmethM.symm.trans hmethM'
  obtain ⟨c2, r2, m2, q1, q2, q3, q4, kP, hkP, hkPi⟩ := Cond.selects_spec hsel
  cases hcls.symm.trans q1
  cases (State.methodFound?_of_named hnamed hy).symm.trans q2
  cases hnamed.symm.trans q3
  have hselP : selectMethod e.platform s.vm cellB.cls mk = .method mk := by rw [Launch.admits_selectMethod X.admits]; exact q4
  obtain ⟨vm₁, X₁, hstep₁⟩ := X.invokevirtual hexec hown hlink hnamed hmethM hstM hkP hkPi hy (a := b) (cell := cellB) hcell
    (fun z h => by rw [h] at hobj; cases hobj) hselP hmethM habM hkP hkPi (g := g) hg (argsL := argsL) (rest := rest) (hlen _ hsigM) hstack hdg
  rcases hK m meth c ⟨T.setVm vm₁, locs, cells, slots⟩ { g with stack := rest } (.invokevirtual index) mk (Value.ref b :: argsL).toArray X₁ hg hsize hdg hW (X₁.named hnamed) (hpre vm₁ X₁.warmed) with ⟨v, B, X', hpost, hsteps⟩ | ⟨q, B, X', hpost, hsteps⟩
  · exact Or.inl ⟨v, vm₁, B, X₁.warmed, X', hpost, fun target h => hstep₁ _ fun acts => by rw [doInvoke_state]; exact hsteps.trans h⟩
  · exact Or.inr ⟨q, vm₁, B, X₁.warmed, X', hpost, hstep₁ _ fun acts => by rw [doInvoke_state]; exact hsteps⟩
theorem vx_callS (X : Stand p l e R s m args below meth c T locs cells slots) (hexec : p.tables.exec = Jvm.exec) {own : String} {index : Nat} {y : MethodName} {bytes : ByteArray} {maxL : Nat} {ret : Option FieldType}
    (hown : s.vm.findClass own = some m.cls) (hlink : (Cond.methodLink own index y).before args s = true) (hstat : (Cond.static y).before args s = true) (hinit : (Cond.initialized y.cls).before args s = true)
    (hcode : (Cond.code y bytes maxL ret).before args s = true) (hy : y.cls ≠ "java/lang/invoke/MethodHandle" ∧ y.cls ≠ "java/lang/invoke/VarHandle")
    {W9 : Nat} {Pre : Pt → Array Value → Prop} {Post : Pt → Array Value → Option Value → Pt → Prop} {PostX : Pt → Array Value → Addr → Pt → Prop} (hK : vx_Back l R p e below s args y 3 W9 Pre Post PostX)
    {g : JFrame} (hg : g.method = m) (hsize : g.locals.size = c.maxLocals) {argsL rest : List Value} (hlen : ∀ sig, parseMethodDescriptor y.desc = some sig → argsL.length = sig.parameters.length)
    (hstack : g.stack = argsL.reverse ++ rest) (hW : 2 * g.monitorRoom + (rest.map fun v => v.category).sum ≤ W9) (hdg : decode c.code g.pc = .ok (.invokestatic index, 3))
    (hpre : ∀ vm₁, s.WarmedH vm₁ → Pre ⟨T.setVm vm₁, locs, cells, slots⟩ argsL.toArray) :
    (∃ (v : Option Value) (vm₁ : Vm) (B : Pt), s.WarmedH vm₁ ∧ Stand p l e R s m args below meth c B.U B.locs B.cells B.slots ∧ Post ⟨T.setVm vm₁, locs, cells, slots⟩ argsL.toArray v B ∧
      ∀ target, Steps p.tables e below (B.U.setTop { g with pc := g.pc + 3, stack := v.toList ++ rest }) target → Steps p.tables e below (T.setTop g) target) ∨
    (∃ (q : Addr) (vm₁ : Vm) (B : Pt), s.WarmedH vm₁ ∧ Stand p l e R s m args below meth c B.U B.locs B.cells B.slots ∧ PostX ⟨T.setVm vm₁, locs, cells, slots⟩ argsL.toArray q B ∧
      Steps p.tables e below (T.setTop g) ((B.U.setTop { g with stack := rest }).pushFrame (.throwing q))) := by
  obtain ⟨mk, hnamed⟩ := Cond.code_named hcode
  obtain ⟨methM, cM, hmethM, -, -, -, -, -, -, hsigM⟩ := Cond.code_spec hnamed hcode
  have hstatic : methM.isStatic = true := Cond.static_spec hnamed hmethM hstat
  obtain ⟨kP, hkP, -⟩ := className_of_methodNamed hnamed
  have hinitP : kP.init = .initialized := Cond.initialized_spec (findClass_of_methodNamed hnamed) hkP hinit
  obtain ⟨vm₁, X₁, hstep₁⟩ := X.invokestatic hexec hown hlink hnamed hmethM hstatic hkP hinitP hy (g := g) hg (argsL := argsL) (rest := rest) (hlen _ hsigM) hstack hdg
  rcases hK m meth c ⟨T.setVm vm₁, locs, cells, slots⟩ { g with stack := rest } (.invokestatic index) mk argsL.toArray X₁ hg hsize hdg hW (X₁.named hnamed) (hpre vm₁ X₁.warmed) with ⟨v, B, X', hpost, hsteps⟩ | ⟨q, B, X', hpost, hsteps⟩
  · exact Or.inl ⟨v, vm₁, B, X₁.warmed, X', hpost, fun target h => hstep₁ _ fun acts => by rw [doInvoke_state]; exact hsteps.trans h⟩
  · exact Or.inr ⟨q, vm₁, B, X₁.warmed, X', hpost, hstep₁ _ fun acts => by rw [doInvoke_state]; exact hsteps⟩
end Calls
theorem vx_cls {s : State} {T : State} {vm₁ : Vm} {E : String} {k : ClassId} (hW : s.WarmedH vm₁) (h : (T.setVm vm₁).vm.findClass E = some k) : s.vm.findClass E = some k := by
  have h1 : vm₁.findClass E = some k := h
  rw [hW.alike.findClass] at h1
  exact h1
/-- the method's frame g, with q thrown over it -/
def vx_W (p : Program) (l : Launch) (e : Env) (R : Room) (s : State) (m : MethodId) (args : Array Value) (below : List Frame) (meth : Method) (c : Code) (H : Heap) (locs : List Loc) (cells slots : Nat) (Q : State → Prop) (g : JFrame) (q : Addr) : Prop :=
  ∀ T : State, T.heap = H → Stand p l e R s m args below meth c T locs cells slots → ∃ t, Steps p.tables e below ((T.setTop g).pushFrame (.throwing q)) t ∧ Q t
def vx_Run (p : Program) (l : Launch) (e : Env) (R : Room) (s : State) (m : MethodId) (args : Array Value) (below : List Frame) (meth : Method) (c : Code) (H : Heap) (locs : List Loc) (cells slots mc ms : Nat) (g : JFrame) (rest : List Value) (Qa : State → Outcome → State → Prop) (XC : String → State → State → Prop) (free : Addr → Prop) : Prop :=
  ∀ T : State, T.heap = H → Stand p l e R s m args below meth c T locs cells slots →
    (∃ (v : Option Value) (st₀ t T' : State) (L : List Loc), st₀.heap = H ∧ Stand p l e R s m args below meth c T' (locs ++ L) (cells + mc) (slots + ms) ∧ (∀ q ∈ L, free q.base) ∧ T'.heap = t.heap ∧ T'.vm = t.vm ∧ Qa st₀ (.returned v) t ∧
      Goes p e below T g T' { g with pc := g.pc + 3, stack := v.toList ++ rest }) ∨
    (∃ (q : Addr) (st₀ t T' : State) (L : List Loc) (E : String) (ce : Cell), st₀.heap = H ∧ Stand p l e R s m args below meth c T' (locs ++ L) (cells + mc) (slots + ms) ∧ (∀ z ∈ L, free z.base) ∧ T'.heap = t.heap ∧ T'.vm = t.vm ∧ XC E st₀ t ∧ t.heap[q]? = some ce ∧ ce.vm = .none ∧ s.vm.findClass E = some ce.cls ∧
      Steps p.tables e below (T.setTop g) ((T'.setTop { g with stack := rest }).pushFrame (.throwing q)))
def vx_X {S : Type} (px : S → Prop) (B : String → S → State → Prop) (A : Nat → Prop) : String → State → State → Prop := fun E st t => ∃ u : S, px u ∧ B E u t ∧ va_F A st t
section Runs
variable {p : Program} {l : Launch} {e : Env} {R : Room} {s : State} {m : MethodId} {args : Array Value} {below : List Frame} {meth : Method} {c : Code} {H : Heap} {locs : List Loc} {cells slots : Nat}
variable {y : MethodName} {bytes cc : ByteArray} {maxL nL mc ms n index : Nat} {ret : Option FieldType} {ws : List Cond} {rm : Room} {Pc : Array Value → State → Prop} {Qc : Array Value → State → Outcome → State → Prop} {XC : String → State → State → Prop} {free : Addr → Prop} {Ts : List Cond} {own C : String} {b : Addr} {As rest : List Value} {g : JFrame}
theorem vx_callBack (cb : CallB R s args own index y bytes maxL ret ws rm mc ms n) (hM : vx_Met l y ws rm Pc Qc XC mc ms free) (hbl : FrameBlind Pc) : vx_Back l R p e below s args y 3 8 (PreOf R mc ms Pc) (PostOf Qc mc ms free) (vx_Post XC mc ms free) := by
  obtain ⟨hrc, hrs, hfr, hlo, hws, hcw, -, hini, -⟩ := cb
  exact vx_back (bytes := bytes) (maxL := maxL) (ret := ret) hM hbl hrc hrs hfr hlo hws hcw (fun a' U hW => word_at hW (Or.inl (by first | rfl | simp [Cond.onTables, Cond.keeps, Cond.steady])) hini)
theorem vx_runV (S : CallFix p m c cc nL s args Ts own) (hM : vx_Met l y ws rm Pc Qc XC mc ms free) (cw : CallW R s args own C index y bytes maxL ret ws rm mc ms n) (hp : PreV s H C b Pc As)
    (hg : g.method = m) (hn : As.length = n) (hsize : g.locals.size = nL) (hstack : g.stack = As.reverse ++ .ref b :: rest) (hW : 2 * g.monitorRoom + (rest.map fun v => v.category).sum ≤ 8) (hdg : decode cc g.pc = .ok (.invokevirtual index, 3)) (hf : cells + mc ≤ R.cells ∧ slots + ms ≤ R.slots) :
    vx_Run p l e R s m args below meth c H locs cells slots mc ms g rest (Qc (Value.ref b :: As).toArray) XC free := by
  have hK : vx_Back l R p e below s args y 3 8 (PreOf R mc ms Pc) (PostOf Qc mc ms free) (vx_Post XC mc ms free) := vx_callBack cw.1 hM hp.1
  obtain ⟨⟨-, -, -, -, -, -, hcode, -, hy, hlen, hl⟩, hin, hse⟩ := cw
  obtain ⟨hx, hb, hml, ho, -⟩ := S
  obtain ⟨-, ⟨cellB, hcB, hoB, hclB⟩, hPc⟩ := hp
  intro T hT X
  rcases vx_callV X hx (C := C) (bytes := bytes) (maxL := maxL) (ret := ret) ho hl hin hse hcode hy hK (by rw [hT]; exact hcB) hoB hclB hg (hsize.trans hml.symm) (argsL := As) (rest := rest) (fun sig h => hn.trans (hlen sig h)) hstack hW (by rw [hb]; exact hdg)
    (fun vm₁ hW₁ => ⟨hf.1, hf.2, hPc (T.setVm vm₁) hT hW₁⟩) with ⟨v, vm₁, ⟨U', l2, c2, s2⟩, hW₁, X', ⟨g', mk, t, L, e1, e2, hq, h1, hL, h2, h3⟩, st⟩ | ⟨q, vm₁, ⟨U', l2, c2, s2⟩, hW₁, X', ⟨g', mk, t, L, E, ce, e1, e2, hq, hce, hcv, hcl, h1, hL, h2, h3⟩, st⟩
  · dsimp only [Pt.U, Pt.locs, Pt.cells, Pt.slots] at X' e1 e2 h1 h2 h3 st
    subst h1; subst h2; subst h3
    exact Or.inl ⟨v, (T.setVm vm₁).calling g' mk (Value.ref b :: As).toArray, t, U', L, hT, X', hL, e1, e2, hq, st⟩
  · dsimp only [Pt.U, Pt.locs, Pt.cells, Pt.slots] at X' e1 e2 h1 h2 h3 st hcl
    subst h1; subst h2; subst h3
    exact Or.inr ⟨q, (T.setVm vm₁).calling g' mk (Value.ref b :: As).toArray, t, U', L, E, ce, hT, X', hL, e1, e2, hq, hce, hcv, vx_cls hW₁ hcl, st⟩
theorem vx_runS (S : CallFix p m c cc nL s args Ts own) (hM : vx_Met l y ws rm Pc Qc XC mc ms free) (cw : CallB R s args own index y bytes maxL ret ws rm mc ms n ∧ (Cond.static y).before args s = true) (hp : PreS s H Pc As)
    (hg : g.method = m) (hn : As.length = n) (hsize : g.locals.size = nL) (hstack : g.stack = As.reverse ++ rest) (hW : 2 * g.monitorRoom + (rest.map fun v => v.category).sum ≤ 8) (hdg : decode cc g.pc = .ok (.invokestatic index, 3)) (hf : cells + mc ≤ R.cells ∧ slots + ms ≤ R.slots) :
    vx_Run p l e R s m args below meth c H locs cells slots mc ms g rest (Qc As.toArray) XC free := by
  have hK : vx_Back l R p e below s args y 3 8 (PreOf R mc ms Pc) (PostOf Qc mc ms free) (vx_Post XC mc ms free) := vx_callBack cw.1 hM hp.1
  obtain ⟨⟨-, -, -, -, -, -, hcode, hini, hy, hlen, hl⟩, hstt⟩ := cw
  obtain ⟨hx, hb, hml, ho, -⟩ := S
  intro T hT X
  rcases vx_callS X hx (bytes := bytes) (maxL := maxL) (ret := ret) ho hl hstt hini hcode hy hK hg (hsize.trans hml.symm) (argsL := As) (rest := rest) (fun sig h => hn.trans (hlen sig h)) hstack hW (by rw [hb]; exact hdg)
    (fun vm₁ hW₁ => ⟨hf.1, hf.2, hp.2 (T.setVm vm₁) hT hW₁⟩) with ⟨v, vm₁, ⟨U', l2, c2, s2⟩, hW₁, X', ⟨g', mk, t, L, e1, e2, hq, h1, hL, h2, h3⟩, st⟩ | ⟨q, vm₁, ⟨U', l2, c2, s2⟩, hW₁, X', ⟨g', mk, t, L, E, ce, e1, e2, hq, hce, hcv, hcl, h1, hL, h2, h3⟩, st⟩
  · dsimp only [Pt.U, Pt.locs, Pt.cells, Pt.slots] at X' e1 e2 h1 h2 h3 st
    subst h1; subst h2; subst h3
    exact Or.inl ⟨v, (T.setVm vm₁).calling g' mk As.toArray, t, U', L, hT, X', hL, e1, e2, hq, st⟩
  · dsimp only [Pt.U, Pt.locs, Pt.cells, Pt.slots] at X' e1 e2 h1 h2 h3 st hcl
    subst h1; subst h2; subst h3
    exact Or.inr ⟨q, (T.setVm vm₁).calling g' mk As.toArray, t, U', L, E, ce, hT, X', hL, e1, e2, hq, hce, hcv, vx_cls hW₁ hcl, st⟩
end Runs
section Rows
variable {p : Program} {l : Launch} {e : Env} {R : Room} {s : State} {m : MethodId} {args : Array Value} {below : List Frame} {meth : Method} {c : Code} {H : Heap} {locs : List Loc} {cells slots : Nat} {Q : State → Prop}
variable {mc ms : Nat} {free : Addr → Prop} {A0 A1 : Nat → Prop} {H0 : Heap} {a : Array Value} {pc : Nat} {ls : Array Slot} {st0 rest : List Value}
theorem vx_keep {st₀ t T' : State} {L : List Loc} (h0 : st₀.heap = H) (e1 : T'.heap = t.heap) (hS : va_S A0 H0 H locs) (hA : ∀ q, q < H.size → A1 q → A0 q) (hf : ∀ q, free q → A0 q) (hL : ∀ q ∈ L, free q.base) (hF : va_F A1 st₀ t) :
    H.size ≤ T'.heap.size ∧ (∀ q : Nat, q < H.size → ¬ A1 q → T'.heap[q]? = H[q]?) ∧ va_S A0 H0 T'.heap (locs ++ L) := by
  obtain ⟨hz, hk⟩ := hF
  rw [h0] at hz hk
  exact ⟨by rw [e1]; exact hz, fun q h1 h2 => by rw [e1]; exact hk q h1 h2,
    ⟨Nat.le_trans hS.1 (by rw [e1]; exact hz), fun q h1 h2 => by rw [e1, hk q (Nat.lt_of_lt_of_le h1 hS.1) (fun z => h2 (hA q (Nat.lt_of_lt_of_le h1 hS.1) z))]; exact hS.2.1 q h1 h2, fun q hq => by
      rcases List.mem_append.mp hq with h | h
      · exact hS.2.2 q h
      · exact hf _ (hL q h)⟩⟩
theorem vx_calli {S SX : Type} {post : Int32 → S → Prop} {px : SX → Prop} {B : S → State → Prop} {BX : String → SX → State → Prop} {AX : Nat → Prop} (hr : vx_Run p l e R s m args below meth c H locs cells slots mc ms (F0 m pc ls st0) rest (va_Qi post B A1 a) (vx_X px BX AX) free) (hS : va_S A0 H0 H locs) (hA : ∀ q, q < H.size → A1 q → A0 q) (hf : ∀ q, free q → A0 q) (hAX : ∀ q, q < H.size → AX q → A0 q)
    (kx : ∀ (E : String) (ce : Cell) (q9 : Addr) (u : SX) (t : State) (H1 : Heap) (locs1 : List Loc), t.heap = H1 → s.vm.Alike t.vm → px u → BX E u t → H.size ≤ H1.size → (∀ q : Nat, q < H.size → ¬ AX q → H1[q]? = H[q]?) → va_S A0 H0 H1 locs1 → H1[q9]? = some ce → ce.vm = .none → s.vm.findClass E = some ce.cls → vx_W p l e R s m args below meth c H1 locs1 (cells + mc) (slots + ms) Q (F0 m pc ls rest) q9)
    (kk : ∀ (r : Int32) (u : S) (t : State) (H1 : Heap) (locs1 : List Loc), t.heap = H1 → s.vm.Alike t.vm → post r u → B u t → H.size ≤ H1.size → (∀ q : Nat, q < H.size → ¬ A1 q → H1[q]? = H[q]?) → va_S A0 H0 H1 locs1 → W p l e R s m args below meth c H1 locs1 (cells + mc) (slots + ms) Q (F0 m (pc + 3) ls (.int r :: rest))) : W p l e R s m args below meth c H locs cells slots Q (F0 m pc ls st0) := by
  intro T hT X
  rcases hr T hT X with ⟨v, st₀, t, T', L, h0, X', hL, e1, e2, ⟨⟨r, u, hv, hp, hb⟩, hF⟩, st⟩ | ⟨q, st₀, t, T', L, E, ce, h0, X', hL, e1, e2, ⟨u, hp, hb, hF⟩, hce, hcv, hcl, st⟩
  · cases hv
    obtain ⟨k1, k2, k3⟩ := vx_keep h0 e1 hS hA hf hL hF
    obtain ⟨t2, a1, b1⟩ := kk r u t T'.heap (locs ++ L) e1.symm (by rw [← e2]; exact X'.warmed.alike) hp hb k1 k2 k3 T' rfl X'
    exact ⟨t2, st t2 a1, b1⟩
  · obtain ⟨k1, k2, k3⟩ := vx_keep h0 e1 hS hAX hf hL hF
    obtain ⟨t2, a1, b1⟩ := kx E ce q u t T'.heap (locs ++ L) e1.symm (by rw [← e2]; exact X'.warmed.alike) hp hb k1 k2 k3 (by rw [e1]; exact hce) hcv hcl T' rfl X'
    exact ⟨t2, st.trans a1, b1⟩
theorem vx_calll {S SX : Type} {post : Int64 → S → Prop} {px : SX → Prop} {B : S → State → Prop} {BX : String → SX → State → Prop} {AX : Nat → Prop} (hr : vx_Run p l e R s m args below meth c H locs cells slots mc ms (F0 m pc ls st0) rest (va_Ql post B A1 a) (vx_X px BX AX) free) (hS : va_S A0 H0 H locs) (hA : ∀ q, q < H.size → A1 q → A0 q) (hf : ∀ q, free q → A0 q) (hAX : ∀ q, q < H.size → AX q → A0 q)
    (kx : ∀ (E : String) (ce : Cell) (q9 : Addr) (u : SX) (t : State) (H1 : Heap) (locs1 : List Loc), t.heap = H1 → s.vm.Alike t.vm → px u → BX E u t → H.size ≤ H1.size → (∀ q : Nat, q < H.size → ¬ AX q → H1[q]? = H[q]?) → va_S A0 H0 H1 locs1 → H1[q9]? = some ce → ce.vm = .none → s.vm.findClass E = some ce.cls → vx_W p l e R s m args below meth c H1 locs1 (cells + mc) (slots + ms) Q (F0 m pc ls rest) q9)
    (kk : ∀ (r : Int64) (u : S) (t : State) (H1 : Heap) (locs1 : List Loc), t.heap = H1 → s.vm.Alike t.vm → post r u → B u t → H.size ≤ H1.size → (∀ q : Nat, q < H.size → ¬ A1 q → H1[q]? = H[q]?) → va_S A0 H0 H1 locs1 → W p l e R s m args below meth c H1 locs1 (cells + mc) (slots + ms) Q (F0 m (pc + 3) ls (.long r :: rest))) : W p l e R s m args below meth c H locs cells slots Q (F0 m pc ls st0) := by
  intro T hT X
  rcases hr T hT X with ⟨v, st₀, t, T', L, h0, X', hL, e1, e2, ⟨⟨r, u, hv, hp, hb⟩, hF⟩, st⟩ | ⟨q, st₀, t, T', L, E, ce, h0, X', hL, e1, e2, ⟨u, hp, hb, hF⟩, hce, hcv, hcl, st⟩
  · cases hv
    obtain ⟨k1, k2, k3⟩ := vx_keep h0 e1 hS hA hf hL hF
    obtain ⟨t2, a1, b1⟩ := kk r u t T'.heap (locs ++ L) e1.symm (by rw [← e2]; exact X'.warmed.alike) hp hb k1 k2 k3 T' rfl X'
    exact ⟨t2, st t2 a1, b1⟩
  · obtain ⟨k1, k2, k3⟩ := vx_keep h0 e1 hS hAX hf hL hF
    obtain ⟨t2, a1, b1⟩ := kx E ce q u t T'.heap (locs ++ L) e1.symm (by rw [← e2]; exact X'.warmed.alike) hp hb k1 k2 k3 (by rw [e1]; exact hce) hcv hcl T' rfl X'
    exact ⟨t2, st.trans a1, b1⟩
theorem vx_callf {S SX : Type} {post : UInt32 → S → Prop} {px : SX → Prop} {B : S → State → Prop} {BX : String → SX → State → Prop} {AX : Nat → Prop} (hr : vx_Run p l e R s m args below meth c H locs cells slots mc ms (F0 m pc ls st0) rest (va_Qf post B A1 a) (vx_X px BX AX) free) (hS : va_S A0 H0 H locs) (hA : ∀ q, q < H.size → A1 q → A0 q) (hf : ∀ q, free q → A0 q) (hAX : ∀ q, q < H.size → AX q → A0 q)
    (kx : ∀ (E : String) (ce : Cell) (q9 : Addr) (u : SX) (t : State) (H1 : Heap) (locs1 : List Loc), t.heap = H1 → s.vm.Alike t.vm → px u → BX E u t → H.size ≤ H1.size → (∀ q : Nat, q < H.size → ¬ AX q → H1[q]? = H[q]?) → va_S A0 H0 H1 locs1 → H1[q9]? = some ce → ce.vm = .none → s.vm.findClass E = some ce.cls → vx_W p l e R s m args below meth c H1 locs1 (cells + mc) (slots + ms) Q (F0 m pc ls rest) q9)
    (kk : ∀ (r : UInt32) (u : S) (t : State) (H1 : Heap) (locs1 : List Loc), t.heap = H1 → s.vm.Alike t.vm → post r u → B u t → H.size ≤ H1.size → (∀ q : Nat, q < H.size → ¬ A1 q → H1[q]? = H[q]?) → va_S A0 H0 H1 locs1 → W p l e R s m args below meth c H1 locs1 (cells + mc) (slots + ms) Q (F0 m (pc + 3) ls (.float r :: rest))) : W p l e R s m args below meth c H locs cells slots Q (F0 m pc ls st0) := by
  intro T hT X
  rcases hr T hT X with ⟨v, st₀, t, T', L, h0, X', hL, e1, e2, ⟨⟨r, u, hv, hp, hb⟩, hF⟩, st⟩ | ⟨q, st₀, t, T', L, E, ce, h0, X', hL, e1, e2, ⟨u, hp, hb, hF⟩, hce, hcv, hcl, st⟩
  · cases hv
    obtain ⟨k1, k2, k3⟩ := vx_keep h0 e1 hS hA hf hL hF
    obtain ⟨t2, a1, b1⟩ := kk r u t T'.heap (locs ++ L) e1.symm (by rw [← e2]; exact X'.warmed.alike) hp hb k1 k2 k3 T' rfl X'
    exact ⟨t2, st t2 a1, b1⟩
  · obtain ⟨k1, k2, k3⟩ := vx_keep h0 e1 hS hAX hf hL hF
    obtain ⟨t2, a1, b1⟩ := kx E ce q u t T'.heap (locs ++ L) e1.symm (by rw [← e2]; exact X'.warmed.alike) hp hb k1 k2 k3 (by rw [e1]; exact hce) hcv hcl T' rfl X'
    exact ⟨t2, st.trans a1, b1⟩
theorem vx_calld {S SX : Type} {post : UInt64 → S → Prop} {px : SX → Prop} {B : S → State → Prop} {BX : String → SX → State → Prop} {AX : Nat → Prop} (hr : vx_Run p l e R s m args below meth c H locs cells slots mc ms (F0 m pc ls st0) rest (va_Qd post B A1 a) (vx_X px BX AX) free) (hS : va_S A0 H0 H locs) (hA : ∀ q, q < H.size → A1 q → A0 q) (hf : ∀ q, free q → A0 q) (hAX : ∀ q, q < H.size → AX q → A0 q)
    (kx : ∀ (E : String) (ce : Cell) (q9 : Addr) (u : SX) (t : State) (H1 : Heap) (locs1 : List Loc), t.heap = H1 → s.vm.Alike t.vm → px u → BX E u t → H.size ≤ H1.size → (∀ q : Nat, q < H.size → ¬ AX q → H1[q]? = H[q]?) → va_S A0 H0 H1 locs1 → H1[q9]? = some ce → ce.vm = .none → s.vm.findClass E = some ce.cls → vx_W p l e R s m args below meth c H1 locs1 (cells + mc) (slots + ms) Q (F0 m pc ls rest) q9)
    (kk : ∀ (r : UInt64) (u : S) (t : State) (H1 : Heap) (locs1 : List Loc), t.heap = H1 → s.vm.Alike t.vm → post r u → B u t → H.size ≤ H1.size → (∀ q : Nat, q < H.size → ¬ A1 q → H1[q]? = H[q]?) → va_S A0 H0 H1 locs1 → W p l e R s m args below meth c H1 locs1 (cells + mc) (slots + ms) Q (F0 m (pc + 3) ls (.double r :: rest))) : W p l e R s m args below meth c H locs cells slots Q (F0 m pc ls st0) := by
  intro T hT X
  rcases hr T hT X with ⟨v, st₀, t, T', L, h0, X', hL, e1, e2, ⟨⟨r, u, hv, hp, hb⟩, hF⟩, st⟩ | ⟨q, st₀, t, T', L, E, ce, h0, X', hL, e1, e2, ⟨u, hp, hb, hF⟩, hce, hcv, hcl, st⟩
  · cases hv
    obtain ⟨k1, k2, k3⟩ := vx_keep h0 e1 hS hA hf hL hF
    obtain ⟨t2, a1, b1⟩ := kk r u t T'.heap (locs ++ L) e1.symm (by rw [← e2]; exact X'.warmed.alike) hp hb k1 k2 k3 T' rfl X'
    exact ⟨t2, st t2 a1, b1⟩
  · obtain ⟨k1, k2, k3⟩ := vx_keep h0 e1 hS hAX hf hL hF
    obtain ⟨t2, a1, b1⟩ := kx E ce q u t T'.heap (locs ++ L) e1.symm (by rw [← e2]; exact X'.warmed.alike) hp hb k1 k2 k3 (by rw [e1]; exact hce) hcv hcl T' rfl X'
    exact ⟨t2, st.trans a1, b1⟩
theorem vx_callv {S SX : Type} {post : S → Prop} {px : SX → Prop} {B : S → State → Prop} {BX : String → SX → State → Prop} {AX : Nat → Prop} (hr : vx_Run p l e R s m args below meth c H locs cells slots mc ms (F0 m pc ls st0) rest (va_Qv post B A1 a) (vx_X px BX AX) free) (hS : va_S A0 H0 H locs) (hA : ∀ q, q < H.size → A1 q → A0 q) (hf : ∀ q, free q → A0 q) (hAX : ∀ q, q < H.size → AX q → A0 q)
    (kx : ∀ (E : String) (ce : Cell) (q9 : Addr) (u : SX) (t : State) (H1 : Heap) (locs1 : List Loc), t.heap = H1 → s.vm.Alike t.vm → px u → BX E u t → H.size ≤ H1.size → (∀ q : Nat, q < H.size → ¬ AX q → H1[q]? = H[q]?) → va_S A0 H0 H1 locs1 → H1[q9]? = some ce → ce.vm = .none → s.vm.findClass E = some ce.cls → vx_W p l e R s m args below meth c H1 locs1 (cells + mc) (slots + ms) Q (F0 m pc ls rest) q9)
    (kk : ∀ (u : S) (t : State) (H1 : Heap) (locs1 : List Loc), t.heap = H1 → s.vm.Alike t.vm → post u → B u t → H.size ≤ H1.size → (∀ q : Nat, q < H.size → ¬ A1 q → H1[q]? = H[q]?) → va_S A0 H0 H1 locs1 → W p l e R s m args below meth c H1 locs1 (cells + mc) (slots + ms) Q (F0 m (pc + 3) ls (rest))) : W p l e R s m args below meth c H locs cells slots Q (F0 m pc ls st0) := by
  intro T hT X
  rcases hr T hT X with ⟨v, st₀, t, T', L, h0, X', hL, e1, e2, ⟨⟨u, hv, hp, hb⟩, hF⟩, st⟩ | ⟨q, st₀, t, T', L, E, ce, h0, X', hL, e1, e2, ⟨u, hp, hb, hF⟩, hce, hcv, hcl, st⟩
  · cases hv
    obtain ⟨k1, k2, k3⟩ := vx_keep h0 e1 hS hA hf hL hF
    obtain ⟨t2, a1, b1⟩ := kk u t T'.heap (locs ++ L) e1.symm (by rw [← e2]; exact X'.warmed.alike) hp hb k1 k2 k3 T' rfl X'
    exact ⟨t2, st t2 a1, b1⟩
  · obtain ⟨k1, k2, k3⟩ := vx_keep h0 e1 hS hAX hf hL hF
    obtain ⟨t2, a1, b1⟩ := kx E ce q u t T'.heap (locs ++ L) e1.symm (by rw [← e2]; exact X'.warmed.alike) hp hb k1 k2 k3 (by rw [e1]; exact hce) hcv hcl T' rfl X'
    exact ⟨t2, st.trans a1, b1⟩
/-- caught by the row x of this method's table; the rows ahead don't take it -/
theorem vx_catch {own name : String} {E : String} {ce : Cell} {q : Addr} (hown : s.vm.findClass own = some m.cls) (pre : List ExceptionTableEntry) (x : ExceptionTableEntry) (suf : List ExceptionTableEntry) (hsplit : c.exceptionTable.toList = pre ++ x :: suf)
    (hpass : ∀ z ∈ pre, covers z pc = false ∨ (z.catchType ≠ 0 ∧ ∃ nm : String, (Cond.classLink own z.catchType nm).before args s = true ∧ va_Nc E nm s)) (hx : covers x pc = true) (h0 : x.catchType ≠ 0)
    (hlink : (Cond.classLink own x.catchType name).before args s = true) (hcast : (Cond.castable E name).before args s = true) (hcell : H[q]? = some ce) (hv : ce.vm = .none) (hcl : s.vm.findClass E = some ce.cls)
    (kk : W p l e R s m args below meth c H locs cells slots Q (F0 m x.handlerPc ls [.ref q])) : vx_W p l e R s m args below meth c H locs cells slots Q (F0 m pc ls rest) q := by
  intro T hT X
  have hpl : e.platform.magicAccessors = ({} : Platform).magicAccessors := by rw [X.admits.platform]
  obtain ⟨c3, c4, hc3, hc4, hasg⟩ := Cond.castable_spec hcast
  cases Option.some.inj (hc3.symm.trans hcl)
  obtain ⟨c5, hc5, hcl5⟩ := Cond.classLink_spec hown hlink e.platform hpl
  cases Option.some.inj (hc4.symm.trans hc5)
  obtain ⟨vm', X', st⟩ := X.thenCaughtThrough q (g := F0 m pc ls rest) rfl (Steps.refl _) (by rw [hT]; exact hcell) (by rw [hv]; rfl) (by obtain ⟨k9, h9, -⟩ := Vm.findClass_spec hcl; exact ⟨k9, h9⟩) pre x suf hsplit
    (fun z hz => by
      rcases hpass z hz with h | ⟨hz0, nm, hl1, hn1⟩
      · exact Or.inl h
      · obtain ⟨c6, hc6, hcl6⟩ := Cond.classLink_spec hown hl1 e.platform hpl
        obtain ⟨a8, b8, h1, h2, h3⟩ := hn1
        cases Option.some.inj (h1.symm.trans hcl)
        cases Option.some.inj (h2.symm.trans hc6)
        exact Or.inr ⟨hz0, _, hcl6, h3⟩) hx (Or.inr ⟨h0, c4, hcl5, hasg⟩)
  obtain ⟨t, a1, b1⟩ := kk (T.setVm vm') hT X'
  exact ⟨t, st.trans a1, b1⟩
end Rows
section Ends
variable {p : Program} {l : Launch} {e : Env} {R : Room} {s : State} {m : MethodId} {args : Array Value} {below : List Frame} {meth : Method} {c : Code} {H : Heap} {locs : List Loc} {cells slots : Nat} {Q : State → Prop}
variable {mc ms : Nat} {free : Addr → Prop} {A0 A1 : Nat → Prop} {H0 : Heap} {a : Array Value} {ls : Array Slot} {st0 rest : List Value}
variable {Qc : Array Value → State → Outcome → State → Prop} {XC : String → State → State → Prop}
/-- what a body that may throw owes at its end -/
def vx_MQ (below : List Frame) (Qc : Array Value → State → Outcome → State → Prop) (XC : String → State → State → Prop) (a : Array Value) (s : State) (mc ms : Nat) (free : Addr → Prop) : State → Prop := fun t =>
  ∃ o, t.status = .running ∧ Ended t below o ∧ vx_Q Qc XC mc ms free a s o t
theorem vx_ret {g : JFrame} {mc ms : Nat} (k : W p l e R s m args below meth c H locs cells slots (MQ below Qc args s mc ms free) g) : W p l e R s m args below meth c H locs cells slots (vx_MQ below Qc XC args s mc ms free) g := by
  intro T hT X
  obtain ⟨t, a1, o, b1, b2, b3, b4⟩ := k T hT X
  exact ⟨t, a1, o, b1, b2, Or.inl ⟨b3, b4⟩⟩
/-- not caught here: it goes on to the caller -/
theorem vx_widen {g : JFrame} {q : Addr} {k n : Nat} (h1 : cells ≤ k) (h2 : slots ≤ n) (kk : vx_W p l e R s m args below meth c H locs k n Q g q) : vx_W p l e R s m args below meth c H locs cells slots Q g q := fun T hT X => kk T hT (stand_widen X h1 h2)
theorem vx_out {pc : Nat} {E : String} {ce : Cell} {q : Addr} {mc ms : Nat} (hout : ∀ x ∈ c.exceptionTable.toList, covers x pc = false) (hlocks : meth.locks = false) (hcell : H[q]? = some ce) (hv : ce.vm = .none) (hcl : s.vm.findClass E = some ce.cls)
    (hx : ∀ t : State, t.heap = H → s.vm.Alike t.vm → XC E s t) (hf : ∀ z ∈ locs, free z.base) (hc : cells ≤ mc) (hs : slots ≤ ms) :
    vx_W p l e R s m args below meth c H locs cells slots (vx_MQ below Qc XC args s mc ms free) (F0 m pc ls rest) q := by
  intro T hT X
  obtain ⟨st1, hrun, hend, hW, hsm⟩ := X.leaveThrown q (g := F0 m pc ls rest) rfl rfl rfl hout hlocks
  have hcell9 : (T.setFrames (.throwing q :: below)).heap[q]? = some ce := by
    show T.heap[q]? = some ce
    rw [hT]; exact hcell
  exact ⟨_, st1, .threw q, hrun, hend, Or.inr ⟨q, rfl, E, ce, locs, hx _ hT hW.alike, hcell9, hv, hcl, hW, hsm.mono hc hs, hf⟩⟩
theorem vx_frame {U : State} {k n : Nat} (h : s.sameButNew ({ U with vm := s.vm } : State) locs k n) : s.heap.size ≤ U.heap.size ∧ ∀ q : Nat, q < s.heap.size → (∀ z ∈ locs, z.base ≠ q) → U.heap[q]? = s.heap[q]? := by
  obtain ⟨-, h2, -, -, -, h6⟩ := h
  refine ⟨h2, fun q hq hz => ?_⟩
  obtain ⟨c9, e1, e2, e3, e4⟩ := h6 q _ (Array.getElem?_eq_getElem hq)
  have hs : c9.slots = (s.heap[q]).slots := Array.ext_getElem? fun i => e4 i fun hm => hz _ hm rfl
  have h9 : c9 = s.heap[q] := by
    rw [hs] at e2
    exact e2
  have e5 : U.heap[q]? = some c9 := e1
  rw [e5, h9, Array.getElem?_eq_getElem hq]
/-- the words of a throw but the four that speak of the heap -/
def vx_no (w : Cond) : Bool := decide (w ≠ .isRef (.static Bundle.tN "UNASSIGNED_STACK" Bundle.steD)) && decide (w ≠ .isRef (.static Bundle.tN "SUPPRESSED_SENTINEL" Bundle.listD)) && decide (w ≠ .laysStatic Bundle.tN "UNASSIGNED_STACK" Bundle.steD) && decide (w ≠ .laysStatic Bundle.tN "SUPPRESSED_SENTINEL" Bundle.listD)
def vx_at0 (own : String) (ic : Nat) (X : String) (names : List String) : List Cond := (Bundle.ownAtoms0 own ic X names).filter vx_no
def vx_atS (own : String) (ic : Nat) (X : String) (names : List String) : List Cond := (Bundle.ownAtoms own ic X names).filter vx_no
/-- a word that the tables alone decide, or a good one -/
def vx_ot (w : Cond) : Bool := w.onTables || goodWord w
theorem vx_ot_at {args a' : Array Value} {s U : State} {w : Cond} (hW : s.WarmedH U.vm) (hvm : s.vm = U.vm) (hg : vx_ot w = true) (h : w.before args s = true) : w.before a' U = true := by
  simp only [vx_ot, Bool.or_eq_true] at hg
  rcases hg with hg | hg
  · exact va_tabs hg hvm h
  · exact word_at hW (good_of_word hg) h
/-- a list's words: the good ones out of the method's own list, the others by premises of their own -/
theorem vx_hat {args : Array Value} {s : State} {L B : List Cond} (h1 : ∀ w ∈ L.filter goodWord, w.before args s = true) (h2 : ∀ w ∈ L.filter (fun w => !goodWord w), w ∈ B) (h3 : ∀ w ∈ B, w.before args s = true) : ∀ w ∈ L, w.before args s = true := by
  intro w hw
  by_cases g : goodWord w = true
  · exact h1 w (List.mem_filter.mpr ⟨hw, g⟩)
  · refine h3 w (h2 w (List.mem_filter.mpr ⟨hw, ?_⟩))
    show (!goodWord w) = true
    cases hgw : goodWord w
    · rfl
    · exact absurd hgw g
theorem vx_c {args : Array Value} {s : State} {w : Cond} {B : List Cond} (h : w.before args s = true) (t : ∀ w ∈ B, w.before args s = true) : ∀ w' ∈ w :: B, w'.before args s = true := fun w' h' => (List.mem_cons.mp h').elim (fun e => by rw [e]; exact h) (t w')
theorem vx_n {args : Array Value} {s : State} : ∀ w ∈ ([] : List Cond), w.before args s = true := fun _ h => nomatch h
theorem vx_own {args : Array Value} {s : State} {L : List Cond} (h1 : ∀ w ∈ L.filter vx_no, w.before args s = true)
    (hU : (Cond.isRef (.static Bundle.tN "UNASSIGNED_STACK" Bundle.steD)).before args s = true) (hN : (Cond.isRef (.static Bundle.tN "SUPPRESSED_SENTINEL" Bundle.listD)).before args s = true)
    (lU : (Cond.laysStatic Bundle.tN "UNASSIGNED_STACK" Bundle.steD).before args s = true) (lN : (Cond.laysStatic Bundle.tN "SUPPRESSED_SENTINEL" Bundle.listD).before args s = true) : ∀ w ∈ L, w.before args s = true := by
  intro w hw
  by_cases e1 : w = .isRef (.static Bundle.tN "UNASSIGNED_STACK" Bundle.steD)
  · rw [e1]; exact hU
  · by_cases e2 : w = .isRef (.static Bundle.tN "SUPPRESSED_SENTINEL" Bundle.listD)
    · rw [e2]; exact hN
    · by_cases e3 : w = .laysStatic Bundle.tN "UNASSIGNED_STACK" Bundle.steD
      · rw [e3]; exact lU
      · by_cases e4 : w = .laysStatic Bundle.tN "SUPPRESSED_SENTINEL" Bundle.listD
        · rw [e4]; exact lN
        · exact h1 w (List.mem_filter.mpr ⟨hw, by unfold vx_no; rw [decide_eq_true e1, decide_eq_true e2, decide_eq_true e3, decide_eq_true e4]; rfl⟩)
/-- where a static field lies, its class's statics cell in H -/
def vx_L (C n d : String) (A : Nat → Prop) (U : State) (H : Heap) : Prop := ∃ (c : ClassId) (k : Class) (i : Nat) (f : Field) (a : Nat) (cell : Cell), U.vm.findClass C = some c ∧ U.fieldFound? C n d = some (c, k, i, f) ∧ f.isStatic = true ∧ k.statics = some a ∧ H[a]? = some cell ∧ cell.vm.isStatics = true ∧ cell.cls = c ∧ f.slot < cell.slots.size ∧ k.staticTypes[f.slot]? = some f.type ∧ ¬ A a
theorem vx_L.moved {C n d : String} {A : Nat → Prop} {u U : State} {H : Heap} (hvm : u.vm.Alike U.vm) (h : vx_L C n d A u H) : vx_L C n d A U H := by
  obtain ⟨c, k, i, f, a, cell, h1, h2, h3, h4, h5, h6, h7, h8, h9, h10⟩ := h
  obtain ⟨k', hi', he⟩ := State.fieldFound?_setVm hvm h2
  exact ⟨c, k', i, f, a, cell, by rw [hvm.findClass]; exact h1, hi', h3, by rw [he]; exact h4, h5, h6, h7, h8, by rw [he]; exact h9, h10⟩
theorem vx_L.kept {C n d : String} {A : Nat → Prop} {U : State} {H H1 : Heap} (h : vx_L C n d A U H) (hq : ∀ a : Nat, a < H.size → ¬ A a → H1[a]? = H[a]?) : vx_L C n d A U H1 := by
  obtain ⟨c, k, i, f, a, cell, h1, h2, h3, h4, h5, h6, h7, h8, h9, h10⟩ := h
  exact ⟨c, k, i, f, a, cell, h1, h2, h3, h4, by rw [hq a (Array.getElem?_eq_some_iff.mp h5).1 h10]; exact h5, h6, h7, h8, h9, h10⟩
theorem vx_L.narrow {C n d : String} {A B : Nat → Prop} {U : State} {H : Heap} (h : vx_L C n d A U H) (hAB : ∀ q, B q → A q) : vx_L C n d B U H := by
  obtain ⟨c, k, i, f, a, cell, h1, h2, h3, h4, h5, h6, h7, h8, h9, h10⟩ := h
  exact ⟨c, k, i, f, a, cell, h1, h2, h3, h4, h5, h6, h7, h8, h9, fun z => h10 (hAB _ z)⟩
theorem vx_L.word {C n d : String} {A : Nat → Prop} {s : State} {args : Array Value} (h : vx_L C n d A s s.heap) : (Cond.laysStatic C n d).before args s = true := by
  obtain ⟨c, k, i, f, a, cell, h1, h2, h3, h4, h5, h6, h7, h8, h9, -⟩ := h
  show (Cond.laysStatic C n d).holds args s none s [] = true
  exact Cond.laysStatic_of h1 h2 h3 h4 h5 h6 h7 h8 h9
/-- .. and what it holds: null or some reference -/
def vx_Zq (C n d : String) (A : Nat → Prop) (U : State) (H : Heap) : Prop := va_Zq C n d A U H ∧ vx_L C n d A U H
theorem vx_Zq.moved {C n d : String} {A : Nat → Prop} {u U : State} {H : Heap} (hvm : u.vm.Alike U.vm) (h : vx_Zq C n d A u H) : vx_Zq C n d A U H := ⟨va_Zq.moved hvm h.1, vx_L.moved hvm h.2⟩
theorem vx_Zq.kept {C n d : String} {A : Nat → Prop} {U : State} {H H1 : Heap} (h : vx_Zq C n d A U H) (hq : ∀ a : Nat, a < H.size → ¬ A a → H1[a]? = H[a]?) : vx_Zq C n d A U H1 := ⟨va_Zq.kept h.1 hq, vx_L.kept h.2 hq⟩
theorem vx_Zq.narrow {C n d : String} {A B : Nat → Prop} {U : State} {H : Heap} (h : vx_Zq C n d A U H) (hAB : ∀ q, B q → A q) : vx_Zq C n d B U H := ⟨va_Zq.narrow h.1 hAB, vx_L.narrow h.2 hAB⟩
theorem vx_Zqof {args : Array Value} {s : State} {C n d : String} {A : Nat → Prop} (hl : (Cond.laysStatic C n d).before args s = true) (hini : (Cond.initialized C).before args s = true) (h : (Cond.isRef (.static C n d)).before args s = true) (hA : ∀ a : Nat, a < s.heap.size → ¬ A a) : vx_Zq C n d A s s.heap := by
  refine ⟨va_Zqof hl hini h hA, ?_⟩
  obtain ⟨c, k, i, f, a, cell, h1, h2, h3, h4, h5, h6, h7, h8, h9⟩ := Cond.laysStatic_spec hl
  exact ⟨c, k, i, f, a, cell, h1, h2, h3, h4, h5, h6, h7, h8, h9, hA a (Array.getElem?_eq_some_iff.mp h5).1⟩
theorem vx_isRef {C n d : String} {v : Value} {A : Nat → Prop} {s : State} {args : Array Value} (h : va_Z C n d v A s s.heap) (hv : v.isRef = true) : (Cond.isRef (.static C n d)).before args s = true := by
  obtain ⟨cf, kf, fi, f, a, cell, h1, h2, h3, h4, h5, h6, h7, -⟩ := h
  have he : (Term.static C n d).eval args s none [] s = some v := by
    simp [Term.eval, State.fieldNamed?, h1, h2, h4, h5, h6, h7]
  simp only [Cond.before, Cond.holds, Cond.value, he]
  cases v <;> simp_all [Value.isRef]
theorem vx_isRefq {C n d : String} {A : Nat → Prop} {s : State} {args : Array Value} (h : va_Zq C n d A s s.heap) : (Cond.isRef (.static C n d)).before args s = true := by
  rcases h with h | ⟨t, h⟩
  · exact vx_isRef h rfl
  · exact vx_isRef h rfl
/-- the same frame, seen from here: as if the method were called anew in this heap -/
theorem vx_rebase {T : State} (X : Stand p l e R s m args below meth c T locs cells slots) {R' : Room} (hf : R'.frames ≤ R.frames) (hl : R'.locals ≤ R.locals) (hc : cells + R'.cells ≤ R.cells) (hs : slots + R'.slots ≤ R.slots) :
    Stand p l e R' ((T.setVm s.vm).setFrames (.invoking m args :: below)) m args below meth c T [] 0 0 := by
  have htop : (T.setVm s.vm).topJava?.isSome := X.here.top
  have hF : ((T.setVm s.vm).setFrames (.invoking m args :: below)).frames = .invoking m args :: below := State.frames_setFrames _ (State.cur_lt_of_top htop)
  obtain ⟨g₀, hg0⟩ := Option.isSome_iff_exists.mp htop
  obtain ⟨r, hr⟩ := State.topJava?_eq_some.mp hg0
  have hl9 : e.platform.stackLimits (T.setVm s.vm).me = e.platform.stackLimits s.me := X.limits
  have hb9 : (T.setVm s.vm).me.stackBytes = s.me.stackBytes := X.bytes
  refine ⟨X.admits, X.cas, X.clock, hF, ?_, X.hears, X.method, X.code, X.here, X.tail, X.warmed, ?_, ?_, ?_⟩
  · have h := X.room
    have hU : ((T.setVm s.vm).setFrames (.invoking m args :: below)).localsInUse = s.localsInUse := by
      rw [State.localsInUse_invoking hF (meth := meth) (c := c) X.method X.code, State.localsInUse_invoking X.frames X.method X.code]
    simp only [State.hasRoom, Bool.and_eq_true, decide_eq_true_eq] at h ⊢
    obtain ⟨⟨⟨⟨h1, h2, h3, h4, h5, h6⟩, h7⟩, h8⟩, h9⟩ := h
    rw [X.frames, List.length_cons] at h2 h3
    have q1 := X.heapSize
    have q2 := X.used
    simp only [hF, hU, List.length_cons, State.stackLimits_setFrames, State.stackBytes_setFrames, hl9, hb9]
    refine ⟨⟨⟨⟨by omega, by omega, by omega, by omega, by omega, h6⟩, ?_⟩, ?_⟩, X.book⟩
    · show T.heap.size + R'.cells ≤ e.platform.maxCells
      omega
    · show T.slotsUsed + R'.slots ≤ e.platform.maxSlots
      omega
  · rw [State.stackLimits_setFrames]; rfl
  · rw [State.stackBytes_setFrames]; rfl
  · refine ⟨?_, Nat.le_refl _, Nat.le_refl _, ?_, ?_, fun a c9 h9 => ⟨c9, h9, rfl, rfl, fun _ _ => rfl⟩⟩
    · obtain ⟨t, ht, -⟩ := State.frames_cons hr
      show T.setVm s.vm = { ((T.setVm s.vm).setFrames (.invoking m args :: below)).setFrames (T.setVm s.vm).frames with heap := T.heap, slotsUsed := T.slotsUsed }
      rw [State.setFrames_setFrames, State.setFrames_self ht]
      rfl
    · show T.slotsUsed = T.slotsUsed + ((T.heap.toList.drop T.heap.size).map (·.slots.size)).sum
      rw [List.drop_eq_nil_of_le (Nat.le_of_eq Array.length_toList)]
      rfl
    · show ((T.heap.toList.drop T.heap.size).map (·.slots.size)).sum ≤ 0
      rw [List.drop_eq_nil_of_le (Nat.le_of_eq Array.length_toList)]
      exact Nat.le_refl _
/-- 'throw new E()': new; dup; invokespecial; athrow -/
theorem vx_throw0 {cc : ByteArray} {pc : Nat} (hexec : p.tables.exec = Jvm.exec) (hb : c.code = cc) (hl : l.stackTraces = false) {own cls : String} {names : List String} {ik ic mc ms : Nat} {A : Nat → Prop}
    (hown : s.vm.findClass own = some m.cls) (hcls : Bundle.fit cls = true) (hnames : ∀ n ∈ names, Bundle.fit n = true)
    (hk : (Cond.classLink own ik cls).before args s = true) (hini : (Cond.initialized cls).before args s = true) (hat : ∀ w ∈ vx_at0 own ic cls names, w.before args s = true)
    (hgood : ∀ w ∈ Cond.classLink own ik cls :: Cond.initialized cls :: vx_at0 own ic cls names, vx_ot w = true)
    (hU : vx_Zq Bundle.tN "UNASSIGNED_STACK" Bundle.steD A s s.heap) (hN : vx_Zq Bundle.tN "SUPPRESSED_SENTINEL" Bundle.listD A s s.heap) (hS : va_S A s.heap H locs) (hsize : ls.size = c.maxLocals)
    (d0 : decode cc pc = .ok (.new ik, 3)) (d3 : decode cc (pc + 3) = .ok (.dup, 1)) (d4 : decode cc (pc + 4) = .ok (.invokespecial ic, 3)) (d7 : decode cc (pc + 7) = .ok (.athrow, 1))
    (hout : ∀ x ∈ c.exceptionTable.toList, covers x (pc + 7) = false)
    (hRframes : names.length + 3 < R.frames) (hRlocals : (rest.map fun v => v.category).sum + (13 * (names.length + 1) + 42) ≤ R.locals) (hRcells : cells + 1 ≤ R.cells) (hRslots : slots + 6 ≤ R.slots) (hlocks : meth.locks = false)
    (hx : ∀ t : State, s.vm.Alike t.vm → H.size ≤ t.heap.size → (∀ q : Nat, q < H.size → t.heap[q]? = H[q]?) → XC cls s t)
    (hf : ∀ z ∈ locs, free z.base) (hc : cells + 1 ≤ mc) (hs : slots + 6 ≤ ms) :
    W p l e R s m args below meth c H locs cells slots (vx_MQ below Qc XC args s mc ms free) (F0 m pc ls rest) := by
  intro T hT X
  have htr : e.platform.stackTraces = false := (show e.platform.stackTraces = l.stackTraces by rw [X.admits.platform]).trans hl
  have Y := vx_rebase X (R' := { frames := R.frames, locals := R.locals, cells := 1, slots := 6 }) (Nat.le_refl _) (Nat.le_refl _) hRcells hRslots
  obtain ⟨s', hA⟩ : ∃ z, z = (T.setVm s.vm).setFrames (.invoking m args :: below) := ⟨_, rfl⟩
  rw [← hA] at Y
  have hvm : s'.vm = s.vm := by rw [hA]; rfl
  have hhp : s'.heap = H := by rw [hA]; exact hT
  have hW0 : s.WarmedH s'.vm := by rw [hvm]; exact State.WarmedH.refl s
  have hat' : ∀ w ∈ vx_at0 own ic cls names, w.before args s' = true := fun w hw => vx_ot_at hW0 hvm.symm (hgood w (List.mem_cons_of_mem _ (List.mem_cons_of_mem _ hw))) (hat w hw)
  have hk' : (Cond.classLink own ik cls).before args s' = true := vx_ot_at hW0 hvm.symm (hgood _ List.mem_cons_self) hk
  have hini' : (Cond.initialized cls).before args s' = true := vx_ot_at hW0 hvm.symm (hgood _ (List.mem_cons_of_mem _ List.mem_cons_self)) hini
  have hU' : vx_Zq Bundle.tN "UNASSIGNED_STACK" Bundle.steD A s' s'.heap := by rw [hhp]; exact vx_Zq.moved hW0.alike (hU.kept hS.2.1)
  have hN' : vx_Zq Bundle.tN "SUPPRESSED_SENTINEL" Bundle.listD A s' s'.heap := by rw [hhp]; exact vx_Zq.moved hW0.alike (hN.kept hS.2.1)
  have h : ∀ w ∈ Bundle.ownAtoms0 own ic cls names, w.before args s' = true := vx_own hat' (vx_isRefq hU'.1) (vx_isRefq hN'.1) hU'.2.word hN'.2.word
  have hown' : s'.vm.findClass own = some m.cls := by rw [hvm]; exact hown
  have hins : (Cond.instantiable cls 6).before args s' = true := h _ (by simp [Bundle.ownAtoms0])
  obtain ⟨vm₁, cX, kX, hfX, hkX, -, -, X₁, st1⟩ := Y.newCold hexec (own := own) (C := cls) (index := ik) (n := 6) hown' hk' hins hini'
    (g := F0 m pc ls rest) rfl (by rw [hb]; exact d0) (Nat.le_refl _) (Nat.le_refl _)
  generalize hT1 : (T.setVm vm₁).pushCell { cls := cX, slots := kX.instanceTypes.map defaultValue, vm := .none } = T1 at X₁ st1
  have hcat : (Value.ref T.heap.size).category = 1 := rfl
  have hcellA : T1.heap[T.heap.size]? = some (freshCell cX kX) := by rw [← hT1]; exact State.heap_pushCell_size _ _
  have d3' : decode c.code (pc + 3) = .ok (.dup, 1) := by rw [hb]; exact d3
  obtain ⟨U, hsteps, hrun, hend, hW, hsame, ce, hce, hO⟩ := X₁.ctorThrow0 hexec htr (own := own) (cls := cls) (names := names) (ic := ic) hown' hcls hnames h (fun x hx => nomatch hx) hfX hkX hcellA (by rw [hhp, hT]; exact Nat.le_refl _)
    (g := { method := m, pc := pc + 4, locals := ls, stack := .ref T.heap.size :: .ref T.heap.size :: rest, locked := none }) rfl hsize rfl rfl (rest := rest) rfl
    (by rw [hb]; exact d4) (by rw [hb]; exact d7) hout hRframes (by simp only [List.map_cons, List.sum_cons, hcat]; omega) hlocks
  obtain ⟨f1, f2⟩ := vx_frame hsame
  rw [hhp] at f1 f2
  have hWs : s.WarmedH U.vm := State.WarmedH.trans hW0 hW
  have hcl : s.vm.findClass cls = some ce.cls := by
    have h9 := hO.cls
    rw [hvm] at h9
    exact h9
  have hall : s.sameButNew ({ U with vm := s.vm } : State) locs mc ms := by
    subst hA
    obtain ⟨e1, e2⟩ := hsame
    rw [State.setFrames_setFrames] at e1
    have h2 : (T.setVm s.vm).sameButNew ({ U with vm := s.vm } : State) [] (0 + 1) (0 + 6) := ⟨e1, e2⟩
    have h3 := X.same.trans h2
    rw [List.append_nil] at h3
    exact h3.mono hc hs
  refine ⟨U, ?_, .threw T.heap.size, hrun, hend, Or.inr ⟨T.heap.size, rfl, cls, ce, locs, hx U hWs.alike f1 (fun q hq => f2 q hq (fun z hz => nomatch hz)), hce, hO.vm, hcl, hWs, hall, hf⟩⟩
  refine st1 _ ?_
  show Steps p.tables e below (T1.setTop { method := m, pc := pc + 3, locals := ls, stack := .ref T.heap.size :: rest, locked := none }) _
  jvm_step X₁.here [X₁.here.top, hexec, d3', Value.category]
  exact hsteps
/-- 'throw new E("text")': new; dup; ldc; invokespecial; athrow -/
theorem vx_throwS {cc : ByteArray} {pc : Nat} (hexec : p.tables.exec = Jvm.exec) (hb : c.code = cc) (hl : l.stackTraces = false) {own cls text : String} {names : List String} {ik is ic mc ms sa : Nat} {A : Nat → Prop}
    (hown : s.vm.findClass own = some m.cls) (hcls : Bundle.fit cls = true) (hnames : ∀ n ∈ names, Bundle.fit n = true)
    (hk : (Cond.classLink own ik cls).before args s = true) (hini : (Cond.initialized cls).before args s = true) (hstr : vk_R own is text sa s) (hat : ∀ w ∈ vx_atS own ic cls names, w.before args s = true)
    (hgood : ∀ w ∈ Cond.classLink own ik cls :: Cond.initialized cls :: vx_atS own ic cls names, vx_ot w = true)
    (hU : vx_Zq Bundle.tN "UNASSIGNED_STACK" Bundle.steD A s s.heap) (hN : vx_Zq Bundle.tN "SUPPRESSED_SENTINEL" Bundle.listD A s s.heap) (hS : va_S A s.heap H locs) (hsize : ls.size = c.maxLocals)
    (d0 : decode cc pc = .ok (.new ik, 3)) (d3 : decode cc (pc + 3) = .ok (.dup, 1)) (d4 : decode cc (pc + 4) = .ok (.ldc is, 2)) (d6 : decode cc (pc + 6) = .ok (.invokespecial ic, 3)) (d9 : decode cc (pc + 9) = .ok (.athrow, 1))
    (hout : ∀ x ∈ c.exceptionTable.toList, covers x (pc + 9) = false)
    (hRframes : names.length + 3 < R.frames) (hRlocals : (rest.map fun v => v.category).sum + (13 * (names.length + 1) + 43) ≤ R.locals) (hRcells : cells + 1 ≤ R.cells) (hRslots : slots + 6 ≤ R.slots) (hlocks : meth.locks = false)
    (hx : ∀ t : State, s.vm.Alike t.vm → H.size ≤ t.heap.size → (∀ q : Nat, q < H.size → t.heap[q]? = H[q]?) → XC cls s t)
    (hf : ∀ z ∈ locs, free z.base) (hc : cells + 1 ≤ mc) (hs : slots + 6 ≤ ms) :
    W p l e R s m args below meth c H locs cells slots (vx_MQ below Qc XC args s mc ms free) (F0 m pc ls rest) := by
  intro T hT X
  have htr : e.platform.stackTraces = false := (show e.platform.stackTraces = l.stackTraces by rw [X.admits.platform]).trans hl
  have Y := vx_rebase X (R' := { frames := R.frames, locals := R.locals, cells := 1, slots := 6 }) (Nat.le_refl _) (Nat.le_refl _) hRcells hRslots
  obtain ⟨s', hA⟩ : ∃ z, z = (T.setVm s.vm).setFrames (.invoking m args :: below) := ⟨_, rfl⟩
  rw [← hA] at Y
  have hvm : s'.vm = s.vm := by rw [hA]; rfl
  have hhp : s'.heap = H := by rw [hA]; exact hT
  have hW0 : s.WarmedH s'.vm := by rw [hvm]; exact State.WarmedH.refl s
  have hat' : ∀ w ∈ vx_atS own ic cls names, w.before args s' = true := fun w hw => vx_ot_at hW0 hvm.symm (hgood w (List.mem_cons_of_mem _ (List.mem_cons_of_mem _ hw))) (hat w hw)
  have hk' : (Cond.classLink own ik cls).before args s' = true := vx_ot_at hW0 hvm.symm (hgood _ List.mem_cons_self) hk
  have hini' : (Cond.initialized cls).before args s' = true := vx_ot_at hW0 hvm.symm (hgood _ (List.mem_cons_of_mem _ List.mem_cons_self)) hini
  have hU' : vx_Zq Bundle.tN "UNASSIGNED_STACK" Bundle.steD A s' s'.heap := by rw [hhp]; exact vx_Zq.moved hW0.alike (hU.kept hS.2.1)
  have hN' : vx_Zq Bundle.tN "SUPPRESSED_SENTINEL" Bundle.listD A s' s'.heap := by rw [hhp]; exact vx_Zq.moved hW0.alike (hN.kept hS.2.1)
  have h : ∀ w ∈ Bundle.ownAtoms own ic cls names, w.before args s' = true := vx_own hat' (vx_isRefq hU'.1) (vx_isRefq hN'.1) hU'.2.word hN'.2.word
  have hown' : s'.vm.findClass own = some m.cls := by rw [hvm]; exact hown
  have hins : (Cond.instantiable cls 6).before args s' = true := h _ (by simp [Bundle.ownAtoms])
  obtain ⟨vm₁, cX, kX, hfX, hkX, -, -, X₁, st1⟩ := Y.newCold hexec (own := own) (C := cls) (index := ik) (n := 6) hown' hk' hins hini'
    (g := F0 m pc ls rest) rfl (by rw [hb]; exact d0) (Nat.le_refl _) (Nat.le_refl _)
  generalize hT1 : (T.setVm vm₁).pushCell { cls := cX, slots := kX.instanceTypes.map defaultValue, vm := .none } = T1 at X₁ st1
  have hcat : (Value.ref T.heap.size).category = 1 := rfl
  have hcellA : T1.heap[T.heap.size]? = some (freshCell cX kX) := by rw [← hT1]; exact State.heap_pushCell_size _ _
  have d3' : decode c.code (pc + 3) = .ok (.dup, 1) := by rw [hb]; exact d3
  have d4' : decode c.code (pc + 4) = .ok (.ldc is, 2) := by rw [hb]; exact d4
  have hstr' : vk_R own is text sa s' := vk_R.warm hW0 hstr
  obtain ⟨U, hsteps, hrun, hend, hW, hsame, ce, hce, hO⟩ := X₁.ctorThrowS hexec htr (own := own) (cls := cls) (names := names) (ic := ic) hown' hcls hnames h (fun x hx => nomatch hx) hfX hkX hcellA (by rw [hhp, hT]; exact Nat.le_refl _) (msg := .ref sa) rfl
    (g := { method := m, pc := pc + 6, locals := ls, stack := .ref sa :: .ref T.heap.size :: .ref T.heap.size :: rest, locked := none }) rfl hsize rfl rfl (rest := rest) rfl
    (by rw [hb]; exact d6) (by rw [hb]; exact d9) hout hRframes (by simp only [List.map_cons, List.sum_cons, hcat]; omega) hlocks
  obtain ⟨f1, f2⟩ := vx_frame hsame
  rw [hhp] at f1 f2
  have hWs : s.WarmedH U.vm := State.WarmedH.trans hW0 hW
  have hcl : s.vm.findClass cls = some ce.cls := by
    have h9 := hO.cls
    rw [hvm] at h9
    exact h9
  have hall : s.sameButNew ({ U with vm := s.vm } : State) locs mc ms := by
    subst hA
    obtain ⟨e1, e2⟩ := hsame
    rw [State.setFrames_setFrames] at e1
    have h2 : (T.setVm s.vm).sameButNew ({ U with vm := s.vm } : State) [] (0 + 1) (0 + 6) := ⟨e1, e2⟩
    have h3 := X.same.trans h2
    rw [List.append_nil] at h3
    exact h3.mono hc hs
  refine ⟨U, ?_, .threw T.heap.size, hrun, hend, Or.inr ⟨T.heap.size, rfl, cls, ce, locs, hx U hWs.alike f1 (fun q hq => f2 q hq (fun z hz => nomatch hz)), hce, hO.vm, hcl, hWs, hall, hf⟩⟩
  refine st1 _ ?_
  show Steps p.tables e below (T1.setTop { method := m, pc := pc + 3, locals := ls, stack := .ref T.heap.size :: rest, locked := none }) _
  jvm_step X₁.here [X₁.here.top, hexec, d3', Value.category]
  exact X₁.ldcString hexec (own := own) (text := text) (index := is) (a := sa) hown' hstr'.1 hstr'.2
    (g := { method := m, pc := pc + 4, locals := ls, stack := .ref T.heap.size :: .ref T.heap.size :: rest, locked := none }) rfl d4' _ hsteps
/-- 'throw new E("text")', the text by a wide index -/
theorem vx_throwSW {cc : ByteArray} {pc : Nat} (hexec : p.tables.exec = Jvm.exec) (hb : c.code = cc) (hl : l.stackTraces = false) {own cls text : String} {names : List String} {ik is ic mc ms sa : Nat} {A : Nat → Prop}
    (hown : s.vm.findClass own = some m.cls) (hcls : Bundle.fit cls = true) (hnames : ∀ n ∈ names, Bundle.fit n = true)
    (hk : (Cond.classLink own ik cls).before args s = true) (hini : (Cond.initialized cls).before args s = true) (hstr : vk_R own is text sa s) (hat : ∀ w ∈ vx_atS own ic cls names, w.before args s = true)
    (hgood : ∀ w ∈ Cond.classLink own ik cls :: Cond.initialized cls :: vx_atS own ic cls names, vx_ot w = true)
    (hU : vx_Zq Bundle.tN "UNASSIGNED_STACK" Bundle.steD A s s.heap) (hN : vx_Zq Bundle.tN "SUPPRESSED_SENTINEL" Bundle.listD A s s.heap) (hS : va_S A s.heap H locs) (hsize : ls.size = c.maxLocals)
    (d0 : decode cc pc = .ok (.new ik, 3)) (d3 : decode cc (pc + 3) = .ok (.dup, 1)) (d4 : decode cc (pc + 4) = .ok (.ldc_w is, 3)) (d7 : decode cc (pc + 7) = .ok (.invokespecial ic, 3)) (d10 : decode cc (pc + 10) = .ok (.athrow, 1))
    (hout : ∀ x ∈ c.exceptionTable.toList, covers x (pc + 10) = false)
    (hRframes : names.length + 3 < R.frames) (hRlocals : (rest.map fun v => v.category).sum + (13 * (names.length + 1) + 43) ≤ R.locals) (hRcells : cells + 1 ≤ R.cells) (hRslots : slots + 6 ≤ R.slots) (hlocks : meth.locks = false)
    (hx : ∀ t : State, s.vm.Alike t.vm → H.size ≤ t.heap.size → (∀ q : Nat, q < H.size → t.heap[q]? = H[q]?) → XC cls s t)
    (hf : ∀ z ∈ locs, free z.base) (hc : cells + 1 ≤ mc) (hs : slots + 6 ≤ ms) :
    W p l e R s m args below meth c H locs cells slots (vx_MQ below Qc XC args s mc ms free) (F0 m pc ls rest) := by
  intro T hT X
  have htr : e.platform.stackTraces = false := (show e.platform.stackTraces = l.stackTraces by rw [X.admits.platform]).trans hl
  have Y := vx_rebase X (R' := { frames := R.frames, locals := R.locals, cells := 1, slots := 6 }) (Nat.le_refl _) (Nat.le_refl _) hRcells hRslots
  obtain ⟨s', hA⟩ : ∃ z, z = (T.setVm s.vm).setFrames (.invoking m args :: below) := ⟨_, rfl⟩
  rw [← hA] at Y
  have hvm : s'.vm = s.vm := by rw [hA]; rfl
  have hhp : s'.heap = H := by rw [hA]; exact hT
  have hW0 : s.WarmedH s'.vm := by rw [hvm]; exact State.WarmedH.refl s
  have hat' : ∀ w ∈ vx_atS own ic cls names, w.before args s' = true := fun w hw => vx_ot_at hW0 hvm.symm (hgood w (List.mem_cons_of_mem _ (List.mem_cons_of_mem _ hw))) (hat w hw)
  have hk' : (Cond.classLink own ik cls).before args s' = true := vx_ot_at hW0 hvm.symm (hgood _ List.mem_cons_self) hk
  have hini' : (Cond.initialized cls).before args s' = true := vx_ot_at hW0 hvm.symm (hgood _ (List.mem_cons_of_mem _ List.mem_cons_self)) hini
  have hU' : vx_Zq Bundle.tN "UNASSIGNED_STACK" Bundle.steD A s' s'.heap := by rw [hhp]; exact vx_Zq.moved hW0.alike (hU.kept hS.2.1)
  have hN' : vx_Zq Bundle.tN "SUPPRESSED_SENTINEL" Bundle.listD A s' s'.heap := by rw [hhp]; exact vx_Zq.moved hW0.alike (hN.kept hS.2.1)
  have h : ∀ w ∈ Bundle.ownAtoms own ic cls names, w.before args s' = true := vx_own hat' (vx_isRefq hU'.1) (vx_isRefq hN'.1) hU'.2.word hN'.2.word
  have hown' : s'.vm.findClass own = some m.cls := by rw [hvm]; exact hown
  have hins : (Cond.instantiable cls 6).before args s' = true := h _ (by simp [Bundle.ownAtoms])
  obtain ⟨vm₁, cX, kX, hfX, hkX, -, -, X₁, st1⟩ := Y.newCold hexec (own := own) (C := cls) (index := ik) (n := 6) hown' hk' hins hini'
    (g := F0 m pc ls rest) rfl (by rw [hb]; exact d0) (Nat.le_refl _) (Nat.le_refl _)
  generalize hT1 : (T.setVm vm₁).pushCell { cls := cX, slots := kX.instanceTypes.map defaultValue, vm := .none } = T1 at X₁ st1
  have hcat : (Value.ref T.heap.size).category = 1 := rfl
  have hcellA : T1.heap[T.heap.size]? = some (freshCell cX kX) := by rw [← hT1]; exact State.heap_pushCell_size _ _
  have d3' : decode c.code (pc + 3) = .ok (.dup, 1) := by rw [hb]; exact d3
  have d4' : decode c.code (pc + 4) = .ok (.ldc_w is, 3) := by rw [hb]; exact d4
  have hstr' : vk_R own is text sa s' := vk_R.warm hW0 hstr
  obtain ⟨U, hsteps, hrun, hend, hW, hsame, ce, hce, hO⟩ := X₁.ctorThrowS hexec htr (own := own) (cls := cls) (names := names) (ic := ic) hown' hcls hnames h (fun x hx => nomatch hx) hfX hkX hcellA (by rw [hhp, hT]; exact Nat.le_refl _) (msg := .ref sa) rfl
    (g := { method := m, pc := pc + 7, locals := ls, stack := .ref sa :: .ref T.heap.size :: .ref T.heap.size :: rest, locked := none }) rfl hsize rfl rfl (rest := rest) rfl
    (by rw [hb]; exact d7) (by rw [hb]; exact d10) hout hRframes (by simp only [List.map_cons, List.sum_cons, hcat]; omega) hlocks
  obtain ⟨f1, f2⟩ := vx_frame hsame
  rw [hhp] at f1 f2
  have hWs : s.WarmedH U.vm := State.WarmedH.trans hW0 hW
  have hcl : s.vm.findClass cls = some ce.cls := by
    have h9 := hO.cls
    rw [hvm] at h9
    exact h9
  have hall : s.sameButNew ({ U with vm := s.vm } : State) locs mc ms := by
    subst hA
    obtain ⟨e1, e2⟩ := hsame
    rw [State.setFrames_setFrames] at e1
    have h2 : (T.setVm s.vm).sameButNew ({ U with vm := s.vm } : State) [] (0 + 1) (0 + 6) := ⟨e1, e2⟩
    have h3 := X.same.trans h2
    rw [List.append_nil] at h3
    exact h3.mono hc hs
  refine ⟨U, ?_, .threw T.heap.size, hrun, hend, Or.inr ⟨T.heap.size, rfl, cls, ce, locs, hx U hWs.alike f1 (fun q hq => f2 q hq (fun z hz => nomatch hz)), hce, hO.vm, hcl, hWs, hall, hf⟩⟩
  refine st1 _ ?_
  show Steps p.tables e below (T1.setTop { method := m, pc := pc + 3, locals := ls, stack := .ref T.heap.size :: rest, locked := none }) _
  jvm_step X₁.here [X₁.here.top, hexec, d3', Value.category]
  exact X₁.ldcStringW hexec (own := own) (text := text) (index := is) (a := sa) hown' hstr'.1 hstr'.2
    (g := { method := m, pc := pc + 4, locals := ls, stack := .ref T.heap.size :: .ref T.heap.size :: rest, locked := none }) rfl d4' _ hsteps
end Ends
section Bodies
variable {l : Launch}
theorem vx_ofW {y : MethodName} {ws ws' : List Cond} {rm : Room} {Pc : Array Value → State → Prop} {Qc : Array Value → State → Outcome → State → Prop} {XC : String → State → State → Prop} {mc ms : Nat} {free : Addr → Prop} {cc : ByteArray} {maxL : Nat} {ret : Option FieldType}
    (hy : plainName y.cls = true) (hw : ws = Cond.code y cc maxL ret :: ws')
    (body : ∀ p e s m args below meth c s₁, BodyLoose p l y (headSpec ws rm) cc maxL ret e s m args below meth c s₁ → c.maxLocals = maxL → (∀ x ∈ c.exceptionTable.toList, False) → Pc args s →
      W p l e (headSpec ws rm).room s m args below meth c s.heap [] 0 0 (vx_MQ below Qc XC args s mc ms free) (entryFrame m args maxL)) : vx_Met l y ws rm Pc Qc XC mc ms free := by
  refine MetFree.of_bodyS (code := cc) (maxLocals := maxL) (ret := ret) hy ?_ ?_
  · intro args s m h hn
    obtain ⟨meth, c, h1, h2, h3, h4, h5, h6, -, -⟩ := Cond.code_spec hn (atoms_spec (ws := ws) h _ (by rw [hw]; exact List.mem_cons_self))
    exact ⟨meth, c, h1, h2, h3, h4, h5, h6⟩
  · intro p e s m args below meth c s₁ B hml hP _
    have hh0 : s₁.heap = s.heap := by rw [B.state]; rfl
    have ht : ∀ x ∈ c.exceptionTable.toList, False := by
      obtain ⟨meth9, c9, h1, h2, -, -, -, -, h7, -⟩ := Cond.code_spec B.named (atoms_spec (ws := ws) B.pre _ (by rw [hw]; exact List.mem_cons_self))
      cases Option.some.inj (h1.symm.trans B.method)
      cases Option.some.inj (h2.symm.trans (Stand.of_body B).code)
      intro x hx
      rw [Array.isEmpty_iff.mp h7] at hx
      cases hx
    obtain ⟨t, a1, o, b1, b2, b3⟩ := body p e s m args below meth c s₁ B hml ht hP s₁ hh0 (Stand.of_body B)
    exact ⟨t, o, a1, b1, b2, b3⟩
/-- the table of a body with handlers -/
theorem vx_table {p : Program} {x y : MethodName} {S : Spec} {cc bytes : ByteArray} {maxL maxL' : Nat} {ret ret' : Option FieldType} {e : Env} {s s₁ : State} {m : MethodId} {args : Array Value} {below : List Frame} {meth : Method} {c : Code} {hh : List (Nat × Nat × Nat × Nat)}
    (B : BodyLoose p l y S cc maxL ret e s m args below meth c s₁) (h : (Cond.codeWith y bytes maxL' ret' hh).before args s = true) : c.exceptionTable.toList = tableOf hh := by
  obtain ⟨m9, meth9, c9, hn9, h1, h2, -, -, h6, -⟩ := Cond.codeWith_spec h
  cases Option.some.inj (hn9.symm.trans B.named)
  cases Option.some.inj (h1.symm.trans B.method)
  cases Option.some.inj (h2.symm.trans (Stand.of_body B).code)
  rw [← h6, table_eq]
end Bodies
end VXA
/-! ===== END ===== -/
/-! ===== BEGIN a static call of a method with an exception table ===== -/
section VXS
variable {p : Program} {l : Launch} {e : Env} {R : Room} {s : State} {m : MethodId} {args : Array Value} {below : List Frame} {meth : Method} {c : Code} {T : State} {H : Heap} {locs : List Loc} {cells slots : Nat}
abbrev vx_CSW (R : Room) (s : State) (args : Array Value) (own : String) (index : Nat) (y : MethodName) (bytes : ByteArray) (maxL : Nat) (ret : Option FieldType) (hh : List (Nat × Nat × Nat × Nat)) (ws : List Cond) (rm : Room) (mc ms n : Nat) : Prop :=
  (rm.cells = mc ∧ rm.slots = ms ∧ rm.frames + 1 ≤ R.frames ∧ 8 + (maxL + 11) + rm.locals ≤ R.locals ∧ (∀ w ∈ ws, ∀ (a' : Array Value) (U : State), s.WarmedH U.vm → w.before a' U = true) ∧ Cond.codeWith y bytes maxL ret hh ∈ ws) ∧
  (Cond.codeWith y bytes maxL ret hh).before args s = true ∧ (Cond.initialized y.cls).before args s = true ∧ (y.cls ≠ "java/lang/invoke/MethodHandle" ∧ y.cls ≠ "java/lang/invoke/VarHandle") ∧
  (∀ sig, parseMethodDescriptor y.desc = some sig → n = sig.parameters.length) ∧ (Cond.methodLink own index y).before args s = true ∧ (Cond.static y).before args s = true
theorem vx_cwSW {own : String} {index maxL mc ms : Nat} {y : MethodName} {bytes : ByteArray} {ret : Option FieldType} {hh : List (Nat × Nat × Nat × Nat)} {Ts ws ws' : List Cond} {rm : Room} (n : Nat) (ht : ∀ w ∈ Ts, w.before args s = true) (hT : GoodIn Ts (va_wsS own index y ws)) (hw : ws = Cond.codeWith y bytes maxL ret hh :: ws') (hrc : rm.cells = mc) (hrs : rm.slots = ms)
    (hd : y.cls ≠ "java/lang/invoke/MethodHandle" ∧ y.cls ≠ "java/lang/invoke/VarHandle" ∧ (parseMethodDescriptor y.desc).map (fun d => d.parameters.length) = some n) (hR : rm.frames + 1 ≤ R.frames ∧ 8 + (maxL + 11) + rm.locals ≤ R.locals) :
    vx_CSW R s args own index y bytes maxL ret hh ws rm mc ms n := by
  have ok : ∀ w ∈ va_wsS own index y ws, w.before args s = true := fun w h => ht w (hT w h).1
  have hG : GoodIn Ts ws := fun w h => hT w (by unfold va_wsS; exact List.mem_append_right _ h)
  have hc : Cond.codeWith y bytes maxL ret hh ∈ ws := by rw [hw]; exact List.mem_cons_self
  refine ⟨⟨hrc, hrs, hR.1, hR.2, pay_in ht hG, hc⟩, ht _ (hG _ hc).1, ok _ (by simp [va_wsS]), ⟨hd.1, hd.2.1⟩, fun sig h => ?_, ok _ (by simp [va_wsS]), ok _ (by simp [va_wsS])⟩
  have h2 := hd.2.2
  rw [h] at h2
  exact (Option.some.inj h2).symm
theorem vx_callSW (X : Stand p l e R s m args below meth c T locs cells slots) (hexec : p.tables.exec = Jvm.exec) {own : String} {index : Nat} {y : MethodName} {bytes : ByteArray} {maxL : Nat} {ret : Option FieldType} {hh : List (Nat × Nat × Nat × Nat)}
    (hown : s.vm.findClass own = some m.cls) (hlink : (Cond.methodLink own index y).before args s = true) (hstat : (Cond.static y).before args s = true) (hinit : (Cond.initialized y.cls).before args s = true)
    (hcode : (Cond.codeWith y bytes maxL ret hh).before args s = true) (hy : y.cls ≠ "java/lang/invoke/MethodHandle" ∧ y.cls ≠ "java/lang/invoke/VarHandle")
    {W9 : Nat} {Pre : Pt → Array Value → Prop} {Post : Pt → Array Value → Option Value → Pt → Prop} (hK : Back l R p e below s args y 3 W9 Pre Post)
    {g : JFrame} (hg : g.method = m) (hsize : g.locals.size = c.maxLocals) {argsL rest : List Value} (hlen : ∀ sig, parseMethodDescriptor y.desc = some sig → argsL.length = sig.parameters.length)
    (hstack : g.stack = argsL.reverse ++ rest) (hW : 2 * g.monitorRoom + (rest.map fun v => v.category).sum ≤ W9) (hdg : decode c.code g.pc = .ok (.invokestatic index, 3))
    (hpre : ∀ vm₁, s.WarmedH vm₁ → Pre ⟨T.setVm vm₁, locs, cells, slots⟩ argsL.toArray) :
    ∃ (v : Option Value) (vm₁ : Vm) (B : Pt), s.WarmedH vm₁ ∧ Stand p l e R s m args below meth c B.U B.locs B.cells B.slots ∧ Post ⟨T.setVm vm₁, locs, cells, slots⟩ argsL.toArray v B ∧
      ∀ target, Steps p.tables e below (B.U.setTop { g with pc := g.pc + 3, stack := v.toList ++ rest }) target → Steps p.tables e below (T.setTop g) target := by
  obtain ⟨mk, methM, cM, hnamed, hmethM, -, -, -, -, -, -, hsigM⟩ := Cond.codeWith_spec hcode
  have hstatic : methM.isStatic = true := Cond.static_spec hnamed hmethM hstat
  obtain ⟨kP, hkP, -⟩ := className_of_methodNamed hnamed
  have hinitP : kP.init = .initialized := Cond.initialized_spec (findClass_of_methodNamed hnamed) hkP hinit
  obtain ⟨vm₁, X₁, hstep₁⟩ := X.invokestatic hexec hown hlink hnamed hmethM hstatic hkP hinitP hy (g := g) hg (argsL := argsL) (rest := rest) (hlen _ hsigM) hstack hdg
  obtain ⟨v, B, X', hpost, hsteps⟩ := hK m meth c ⟨T.setVm vm₁, locs, cells, slots⟩ { g with stack := rest } (.invokestatic index) mk argsL.toArray X₁ hg hsize hdg hW (X₁.named hnamed) (hpre vm₁ X₁.warmed)
  exact ⟨v, vm₁, B, X₁.warmed, X', hpost, fun target h => hstep₁ _ fun acts => by rw [doInvoke_state]; exact hsteps.trans h⟩
theorem vx_runSW {y : MethodName} {bytes cc : ByteArray} {maxL nL mc ms n index : Nat} {ret : Option FieldType} {hh : List (Nat × Nat × Nat × Nat)} {ws : List Cond} {rm : Room} {Pc : Array Value → State → Prop} {Qc : Array Value → State → Outcome → State → Prop} {free : Addr → Prop} {Ts : List Cond} {own : String} {As rest : List Value} {g : JFrame}
    (S : CallFix p m c cc nL s args Ts own) (hM : Met l y ws rm Pc Qc mc ms free) (cw : vx_CSW R s args own index y bytes maxL ret hh ws rm mc ms n) (hp : PreS s H Pc As)
    (hg : g.method = m) (hn : As.length = n) (hsize : g.locals.size = nL) (hstack : g.stack = As.reverse ++ rest) (hW : 2 * g.monitorRoom + (rest.map fun v => v.category).sum ≤ 8) (hdg : decode cc g.pc = .ok (.invokestatic index, 3)) (hf : cells + mc ≤ R.cells ∧ slots + ms ≤ R.slots) :
    va_Run p l e R s m args below meth c H locs cells slots mc ms g rest (Qc As.toArray) (free) := by
  obtain ⟨⟨hrc, hrs, hfr, hlo, hws, hcw⟩, hcode, hini, hy, hlen, hl, hstt⟩ := cw
  have hK : Back l R p e below s args y 3 8 (PreOf R mc ms Pc) (PostOf Qc mc ms free) := va_backW (hh := hh) (bytes := bytes) (maxL := maxL) (ret := ret) hM hp.1 hrc hrs hfr hlo hws hcw (fun a' U hW => word_at hW (Or.inl (by first | rfl | simp [Cond.onTables, Cond.keeps, Cond.steady])) hini)
  obtain ⟨hx, hb, hml, ho, -⟩ := S
  intro T hT X
  obtain ⟨v, vm₁, ⟨U', l2, c2, s2⟩, hW₁, X', ⟨g', mk, t, L, e1, e2, hq, h1, hL, h2, h3⟩, st⟩ := vx_callSW X hx (hh := hh) (bytes := bytes) (maxL := maxL) (ret := ret) ho hl hstt hini hcode hy hK hg (hsize.trans hml.symm) (argsL := As) (rest := rest) (fun sig h => hn.trans (hlen sig h)) hstack hW (by rw [hb]; exact hdg)
    (fun vm₁ hW₁ => ⟨hf.1, hf.2, hp.2 (T.setVm vm₁) hT hW₁⟩)
  dsimp only [Pt.U, Pt.locs, Pt.cells, Pt.slots] at X' e1 e2 h1 h2 h3 st
  subst h1; subst h2; subst h3
  exact ⟨v, (T.setVm vm₁).calling g' mk As.toArray, t, U', L, hT, X', hL, e1, e2, hq, st⟩
/-- not caught here, past rows that name other classes: it goes on to the caller -/
theorem vx_outP {p : Program} {l : Launch} {e : Env} {R : Room} {s : State} {m : MethodId} {args : Array Value} {below : List Frame} {meth : Method} {c : Code} {H : Heap} {locs : List Loc} {cells slots : Nat} {free : Addr → Prop} {ls : Array Slot} {rest : List Value} {Qc : Array Value → State → Outcome → State → Prop} {XC : String → State → State → Prop}
    {pc : Nat} {own E : String} {ce : Cell} {q : Addr} {mc ms : Nat} (hown : s.vm.findClass own = some m.cls) (hlocks : meth.locks = false)
    (hpass : ∀ z ∈ c.exceptionTable.toList, covers z pc = false ∨ (z.catchType ≠ 0 ∧ ∃ nm : String, (Cond.classLink own z.catchType nm).before args s = true ∧ va_Nc E nm s)) (hcell : H[q]? = some ce) (hv : ce.vm = .none) (hcl : s.vm.findClass E = some ce.cls)
    (hx : ∀ t : State, t.heap = H → s.vm.Alike t.vm → XC E s t) (hf : ∀ z ∈ locs, free z.base) (hc : cells ≤ mc) (hs : slots ≤ ms) :
    vx_W p l e R s m args below meth c H locs cells slots (vx_MQ below Qc XC args s mc ms free) (F0 m pc ls rest) q := by
  intro T hT X
  have hpl : e.platform.magicAccessors = ({} : Platform).magicAccessors := by rw [X.admits.platform]
  obtain ⟨vm', hW', X', st⟩ := X.outThrough hlocks q (g := F0 m pc ls rest) rfl rfl rfl (cell := ce) (by rw [hT]; exact hcell) (by rw [hv]; rfl)
    (by obtain ⟨k9, h9, -⟩ := Vm.findClass_spec hcl; exact ⟨k9, h9⟩) (fun z hz => by
      rcases hpass z hz with h | ⟨hz0, nm, hl1, hn1⟩
      · exact Or.inl h
      · obtain ⟨c6, hc6, hcl6⟩ := Cond.classLink_spec hown hl1 e.platform hpl
        obtain ⟨a8, b8, h1, h2, h3⟩ := hn1
        cases Option.some.inj (h1.symm.trans hcl)
        cases Option.some.inj (h2.symm.trans hc6)
        exact Or.inr ⟨hz0, _, hcl6, h3⟩)
  obtain ⟨g₀, hfr⟩ := X'.frames_eq
  have hcell9 : ((T.setVm vm').setFrames (.throwing q :: below)).heap[q]? = some ce := by
    show T.heap[q]? = some ce
    rw [hT]; exact hcell
  have hend : Ended ((T.setVm vm').setFrames (.throwing q :: below)) below (.threw q) := State.frames_setFrames _ (State.cur_lt_of_frames hfr)
  refine ⟨(T.setVm vm').setFrames (.throwing q :: below), ?_, .threw q, X'.here.running, hend, Or.inr ⟨q, rfl, E, ce, locs, hx _ hT (X'.ends _).1.alike, hcell9, hv, hcl, (X'.ends _).1, (X'.ends _).2.mono hc hs, hf⟩⟩
  rw [X.pushThrowing_eq]
  exact st
/-- a thing of a world lies in the heap -/
theorem vx_lt {D : va_G} {cl : List vw_C} {ws : va_W} {H1 : Heap} (h : va_P D cl ws H1) {k : Nat} {q : Nat × va_E} (hk : ws[k]? = some q) : q.1 < H1.size := (h k q hk).lt
end VXS
/-! ===== END ===== -/
/-! ===== BEGIN methods with a table of their own: called by a name, returning or throwing ===== -/
section VXH
/-! vx_backW, vx_callVX, vx_callSX, vx_callVW, vx_runVW, vx_runVX, vx_runSX, vx_ofWH follow the same proofs as their sisters above (Free/Laws.lean, Shelf42/LK1.lean); vx_outP calls Shelf42/NT130.lean (outThrough). -/
section
variable {l : Launch} {R : Room} {p : Program} {e : Env} {below : List Frame} {s : State} {sargs : Array Value} {y : MethodName} {len W9 : Nat}
theorem vx_backW {ws : List Cond} {rm : Room} {Pc : Array Value → State → Prop} {Qc : Array Value → State → Outcome → State → Prop} {XC : String → State → State → Prop} {mc ms : Nat} {free : Addr → Prop} {bytes : ByteArray} {maxL : Nat} {ret : Option FieldType} {hh : List (Nat × Nat × Nat × Nat)}
    (hM : vx_Met l y ws rm Pc Qc XC mc ms free) (hblind : FrameBlind Pc) (hrc : rm.cells = mc) (hrs : rm.slots = ms)
    (hframes : rm.frames + 1 ≤ R.frames) (hlocals : W9 + (maxL + 11) + rm.locals ≤ R.locals)
    (hws : ∀ w ∈ ws, ∀ a' U, s.WarmedH U.vm → w.before a' U = true) (hcode : Cond.codeWith y bytes maxL ret hh ∈ ws) (hinit : ∀ a' U, s.WarmedH U.vm → (Cond.initialized y.cls).before a' U = true) :
    vx_Back l R p e below s sargs y len W9 (PreOf R mc ms Pc) (PostOf Qc mc ms free) (vx_Post XC mc ms free) := by
  intro m meth c A g ig mk a X hg hsize hdg hW hn hp
  have h1 : (headSpec ws rm).pre.before a A.U = true := atoms_intro fun w hw => hws w hw _ _ X.warmed
  have h2 : (Cond.codeWith y bytes maxL ret hh).before a A.U = true := hws _ hcode _ _ X.warmed
  have h3 : (Cond.initialized y.cls).before a A.U = true := hinit _ _ X.warmed
  have h4 : A.cells + (headSpec ws rm).room.cells ≤ R.cells := by rw [show (headSpec ws rm).room.cells = mc from hrc]; exact hp.1
  have h5 : A.slots + (headSpec ws rm).room.slots ≤ R.slots := by rw [show (headSpec ws rm).room.slots = ms from hrs]; exact hp.2.1
  have hPc : Pc a (A.U.calling g mk a) := hblind _ _ _ _ hp.2.2
  obtain ⟨U, Ls, c0, s0⟩ := A
  dsimp only [Pt.U, Pt.locs, Pt.cells, Pt.slots] at h1 h2 h3 h4 h5 X hn hPc ⊢
  obtain ⟨m9, methY, cY, hn9, hmY, hcY, -, hlY, -⟩ := Cond.codeWith_spec h2
  cases Option.some.inj (hn9.symm.trans hn)
  obtain ⟨kY, hkY, -⟩ := className_of_methodNamed hn
  have hinitY : kY.init = .initialized := Cond.initialized_spec (findClass_of_methodNamed hn) hkY h3
  have h : At U g.method c below := by rw [hg]; exact X.here
  have hlocals9 : W9 + (maxL + 11) + (headSpec ws rm).room.locals ≤ R.locals := hlocals
  have happ : (headSpec ws rm).appliesLoose y e.platform (U.calling g mk a) = true :=
    Spec.appliesLoose_calling (g := g) h hdg hn hkY hinitY
      (X.room_calling (g := g) (R' := (headSpec ws rm).room) hsize hmY hcY hframes (by rw [hlY]; omega) h4 h5) h1
  obtain ⟨mid, hmid⟩ := h.above
  have hfr : (U.setTop g).frames = (.java g :: mid) ++ below := by rw [State.frames_setTop' g h.top, hmid]; rfl
  obtain ⟨o, s₂, hsteps, -, hend, hq⟩ := Steps.callFree hM p X.admits X.cas X.clock (acts := []) hfr happ hPc trivial
  have hq' : vx_Q Qc XC mc ms free a (U.calling g mk a) o s₂ := hq
  rw [State.frames_setTop' g h.top] at hend
  obtain ⟨g₀, hg0⟩ := Option.isSome_iff_exists.mp h.top
  obtain ⟨r, hr⟩ := State.topJava?_eq_some.mp hg0
  have hr' : (({ U with heap := s₂.heap, slotsUsed := s₂.slotsUsed } : State).setVm s₂.vm).frames = .java g₀ :: r := hr
  rcases hq' with ⟨hqc, L, hfe, hL⟩ | ⟨q, rfl, E, ce, L, hx, hce, hcv, hcl, hW₂, hsm, hL⟩
  · obtain ⟨⟨v, rfl⟩, hW₂, e2, q2, q3, q4, q5, q6⟩ := id hfe
    have e3 : s₂ = ({ (U.calling g mk a).setFrames s₂.frames with heap := s₂.heap, slotsUsed := s₂.slotsUsed } : State).setVm s₂.vm := by
      have : s₂ = ({ s₂ with vm := (U.calling g mk a).vm } : State).setVm s₂.vm := rfl
      rw [e2] at this
      exact this
    obtain ⟨c₂, i₂, len₂, hc₂, hd₂, hf₂⟩ := hend
    have hW' : U.WarmedH s₂.vm := hW₂
    have hcc : c₂ = c := by
      have h1 : s₂.code? g.method = U.code? g.method := by
        rw [State.code?_eq, State.code?_eq, hW'.alike.method?]
      exact Option.some.inj (hc₂.symm.trans (h1.trans h.code))
    subst hcc
    have hlen : len₂ = len := by rw [hdg] at hd₂; cases hd₂; rfl
    subst hlen
    have hs₂ : s₂ = (({ U with heap := s₂.heap, slotsUsed := s₂.slotsUsed } : State).setVm s₂.vm).setTop { g with pc := g.pc + len₂, stack := v.toList ++ g.stack } := by
      refine e3.trans ?_
      rw [hf₂, State.calling_eq h.top, State.setFrames_setFrames, State.setTop_of_frames _ hr', hr]
      rfl
    have hsame : U.sameButNew ({ U with heap := s₂.heap, slotsUsed := s₂.slotsUsed } : State) L mc ms := by
      refine ⟨?_, q2, q3, q4, q5, q6⟩
      obtain ⟨t, ht, -⟩ := State.frames_cons hr
      show ({ U with heap := s₂.heap, slotsUsed := s₂.slotsUsed } : State) = { U.setFrames U.frames with heap := s₂.heap, slotsUsed := s₂.slotsUsed }
      rw [State.setFrames_self ht]
    subst hg
    refine Or.inl ⟨v, ⟨(({ U with heap := s₂.heap, slotsUsed := s₂.slotsUsed } : State).setVm s₂.vm), Ls ++ L, c0 + mc, s0 + ms⟩,
      ⟨X.admits, X.cas, X.clock, X.frames, X.room, X.hears, X.method, X.code, (X.here.setHeapUsed s₂.heap s₂.slotsUsed).setVm hW'.alike, X.tail, State.WarmedH.trans X.warmed hW', X.limits, X.bytes, X.same.trans (hsame.setVm s.vm)⟩,
      ⟨g, mk, s₂, L, rfl, rfl, hqc, rfl, hL, rfl, rfl⟩, ?_⟩
    show Steps p.tables e below _ ((({ U with heap := s₂.heap, slotsUsed := s₂.slotsUsed } : State).setVm s₂.vm).setTop { g with pc := g.pc + len₂, stack := v.toList ++ g.stack })
    rw [← hs₂]
    exact hsteps
  · obtain ⟨e2, q2, q3, q4, q5, q6⟩ := id hsm
    have e3 : s₂ = ({ (U.calling g mk a).setFrames s₂.frames with heap := s₂.heap, slotsUsed := s₂.slotsUsed } : State).setVm s₂.vm := by
      have : s₂ = ({ s₂ with vm := (U.calling g mk a).vm } : State).setVm s₂.vm := rfl
      rw [e2] at this
      exact this
    have hf₂ : s₂.frames = .throwing q :: .java g :: U.frames.tail := hend
    have hW' : U.WarmedH s₂.vm := hW₂
    have hs₂ : s₂ = ((({ U with heap := s₂.heap, slotsUsed := s₂.slotsUsed } : State).setVm s₂.vm).setTop g).pushFrame (.throwing q) := by
      refine e3.trans ?_
      rw [hf₂, State.calling_eq h.top, State.setFrames_setFrames, State.pushFrame, State.frames_setTop _ hr', State.setTop_of_frames _ hr', State.setFrames_setFrames, hr]
      rfl
    have hsame : U.sameButNew ({ U with heap := s₂.heap, slotsUsed := s₂.slotsUsed } : State) L mc ms := by
      refine ⟨?_, q2, q3, q4, q5, q6⟩
      obtain ⟨t, ht, -⟩ := State.frames_cons hr
      show ({ U with heap := s₂.heap, slotsUsed := s₂.slotsUsed } : State) = { U.setFrames U.frames with heap := s₂.heap, slotsUsed := s₂.slotsUsed }
      rw [State.setFrames_self ht]
    subst hg
    refine Or.inr ⟨q, ⟨(({ U with heap := s₂.heap, slotsUsed := s₂.slotsUsed } : State).setVm s₂.vm), Ls ++ L, c0 + mc, s0 + ms⟩,
      ⟨X.admits, X.cas, X.clock, X.frames, X.room, X.hears, X.method, X.code, (X.here.setHeapUsed s₂.heap s₂.slotsUsed).setVm hW'.alike, X.tail, State.WarmedH.trans X.warmed hW', X.limits, X.bytes, X.same.trans (hsame.setVm s.vm)⟩,
      ⟨g, mk, s₂, L, E, ce, rfl, rfl, hx, hce, hcv, hcl, rfl, hL, rfl, rfl⟩, ?_⟩
    show Steps p.tables e below _ (((({ U with heap := s₂.heap, slotsUsed := s₂.slotsUsed } : State).setVm s₂.vm).setTop g).pushFrame (.throwing q))
    rw [← hs₂]
    exact hsteps
end
variable {p : Program} {l : Launch} {e : Env} {R : Room} {s : State} {m : MethodId} {args : Array Value} {below : List Frame} {meth : Method} {c : Code} {T : State} {H : Heap} {locs : List Loc} {cells slots : Nat}
theorem vx_callVX (X : Stand p l e R s m args below meth c T locs cells slots) (hexec : p.tables.exec = Jvm.exec) {own C : String} {index : Nat} {y : MethodName} {bytes : ByteArray} {maxL : Nat} {ret : Option FieldType} {hh : List (Nat × Nat × Nat × Nat)}
    (hown : s.vm.findClass own = some m.cls) (hlink : (Cond.methodLink own index y).before args s = true) (hinst : (Cond.instanceMethod y).before args s = true) (hsel : (Cond.selects C y y).before args s = true)
    (hcode : (Cond.codeWith y bytes maxL ret hh).before args s = true) (hy : y.cls ≠ "java/lang/invoke/MethodHandle" ∧ y.cls ≠ "java/lang/invoke/VarHandle")
    {W9 : Nat} {Pre : Pt → Array Value → Prop} {Post : Pt → Array Value → Option Value → Pt → Prop} {PostX : Pt → Array Value → Addr → Pt → Prop} (hK : vx_Back l R p e below s args y 3 W9 Pre Post PostX)
    {b : Addr} {cellB : Cell} (hcell : T.heap[b]? = some cellB) (hobj : cellB.vm.isStatics = false) (hcls : s.vm.findClass C = some cellB.cls)
    {g : JFrame} (hg : g.method = m) (hsize : g.locals.size = c.maxLocals) {argsL rest : List Value} (hlen : ∀ sig, parseMethodDescriptor y.desc = some sig → argsL.length = sig.parameters.length)
    (hstack : g.stack = argsL.reverse ++ .ref b :: rest) (hW : 2 * g.monitorRoom + (rest.map fun v => v.category).sum ≤ W9) (hdg : decode c.code g.pc = .ok (.invokevirtual index, 3))
    (hpre : ∀ vm₁, s.WarmedH vm₁ → Pre ⟨T.setVm vm₁, locs, cells, slots⟩ (Value.ref b :: argsL).toArray) :
    (∃ (v : Option Value) (vm₁ : Vm) (B : Pt), s.WarmedH vm₁ ∧ Stand p l e R s m args below meth c B.U B.locs B.cells B.slots ∧ Post ⟨T.setVm vm₁, locs, cells, slots⟩ (Value.ref b :: argsL).toArray v B ∧
      ∀ target, Steps p.tables e below (B.U.setTop { g with pc := g.pc + 3, stack := v.toList ++ rest }) target → Steps p.tables e below (T.setTop g) target) ∨
    (∃ (q : Addr) (vm₁ : Vm) (B : Pt), s.WarmedH vm₁ ∧ Stand p l e R s m args below meth c B.U B.locs B.cells B.slots ∧ PostX ⟨T.setVm vm₁, locs, cells, slots⟩ (Value.ref b :: argsL).toArray q B ∧
      Steps p.tables e below (T.setTop g) ((B.U.setTop { g with stack := rest }).pushFrame (.throwing q))) := by
  obtain ⟨mk, methM, hnamed, hmethM, hstM, habM⟩ := Cond.instanceMethod_spec hinst
  obtain ⟨m8, methM', cM, hn8, hmethM', -, -, -, -, -, -, hsigM⟩ := Cond.codeWith_spec hcode
  cases Option.some.inj (hn8.symm.trans hnamed)
  cases hmethM.symm.trans hmethM'
  obtain ⟨c2, r2, m2, q1, q2, q3, q4, kP, hkP, hkPi⟩ := Cond.selects_spec hsel
  cases hcls.symm.trans q1
  cases (State.methodFound?_of_named hnamed hy).symm.trans q2
  cases hnamed.symm.trans q3
  have hselP : selectMethod e.platform s.vm cellB.cls mk = .method mk := by rw [Launch.admits_selectMethod X.admits]; exact q4
  obtain ⟨vm₁, X₁, hstep₁⟩ := X.invokevirtual hexec hown hlink hnamed hmethM hstM hkP hkPi hy (a := b) (cell := cellB) hcell
    (fun z h => by rw [h] at hobj; cases hobj) hselP hmethM habM hkP hkPi (g := g) hg (argsL := argsL) (rest := rest) (hlen _ hsigM) hstack hdg
  rcases hK m meth c ⟨T.setVm vm₁, locs, cells, slots⟩ { g with stack := rest } (.invokevirtual index) mk (Value.ref b :: argsL).toArray X₁ hg hsize hdg hW (X₁.named hnamed) (hpre vm₁ X₁.warmed) with ⟨v, B, X', hpost, hsteps⟩ | ⟨q, B, X', hpost, hsteps⟩
  · exact Or.inl ⟨v, vm₁, B, X₁.warmed, X', hpost, fun target h => hstep₁ _ fun acts => by rw [doInvoke_state]; exact hsteps.trans h⟩
  · exact Or.inr ⟨q, vm₁, B, X₁.warmed, X', hpost, hstep₁ _ fun acts => by rw [doInvoke_state]; exact hsteps⟩
theorem vx_callSX (X : Stand p l e R s m args below meth c T locs cells slots) (hexec : p.tables.exec = Jvm.exec) {own : String} {index : Nat} {y : MethodName} {bytes : ByteArray} {maxL : Nat} {ret : Option FieldType} {hh : List (Nat × Nat × Nat × Nat)}
    (hown : s.vm.findClass own = some m.cls) (hlink : (Cond.methodLink own index y).before args s = true) (hstat : (Cond.static y).before args s = true) (hinit : (Cond.initialized y.cls).before args s = true)
    (hcode : (Cond.codeWith y bytes maxL ret hh).before args s = true) (hy : y.cls ≠ "java/lang/invoke/MethodHandle" ∧ y.cls ≠ "java/lang/invoke/VarHandle")
    {W9 : Nat} {Pre : Pt → Array Value → Prop} {Post : Pt → Array Value → Option Value → Pt → Prop} {PostX : Pt → Array Value → Addr → Pt → Prop} (hK : vx_Back l R p e below s args y 3 W9 Pre Post PostX)
    {g : JFrame} (hg : g.method = m) (hsize : g.locals.size = c.maxLocals) {argsL rest : List Value} (hlen : ∀ sig, parseMethodDescriptor y.desc = some sig → argsL.length = sig.parameters.length)
    (hstack : g.stack = argsL.reverse ++ rest) (hW : 2 * g.monitorRoom + (rest.map fun v => v.category).sum ≤ W9) (hdg : decode c.code g.pc = .ok (.invokestatic index, 3))
    (hpre : ∀ vm₁, s.WarmedH vm₁ → Pre ⟨T.setVm vm₁, locs, cells, slots⟩ argsL.toArray) :
    (∃ (v : Option Value) (vm₁ : Vm) (B : Pt), s.WarmedH vm₁ ∧ Stand p l e R s m args below meth c B.U B.locs B.cells B.slots ∧ Post ⟨T.setVm vm₁, locs, cells, slots⟩ argsL.toArray v B ∧
      ∀ target, Steps p.tables e below (B.U.setTop { g with pc := g.pc + 3, stack := v.toList ++ rest }) target → Steps p.tables e below (T.setTop g) target) ∨
    (∃ (q : Addr) (vm₁ : Vm) (B : Pt), s.WarmedH vm₁ ∧ Stand p l e R s m args below meth c B.U B.locs B.cells B.slots ∧ PostX ⟨T.setVm vm₁, locs, cells, slots⟩ argsL.toArray q B ∧
      Steps p.tables e below (T.setTop g) ((B.U.setTop { g with stack := rest }).pushFrame (.throwing q))) := by
  obtain ⟨mk, methM, cM, hnamed, hmethM, -, -, -, -, -, -, hsigM⟩ := Cond.codeWith_spec hcode
  have hstatic : methM.isStatic = true := Cond.static_spec hnamed hmethM hstat
  obtain ⟨kP, hkP, -⟩ := className_of_methodNamed hnamed
  have hinitP : kP.init = .initialized := Cond.initialized_spec (findClass_of_methodNamed hnamed) hkP hinit
  obtain ⟨vm₁, X₁, hstep₁⟩ := X.invokestatic hexec hown hlink hnamed hmethM hstatic hkP hinitP hy (g := g) hg (argsL := argsL) (rest := rest) (hlen _ hsigM) hstack hdg
  rcases hK m meth c ⟨T.setVm vm₁, locs, cells, slots⟩ { g with stack := rest } (.invokestatic index) mk argsL.toArray X₁ hg hsize hdg hW (X₁.named hnamed) (hpre vm₁ X₁.warmed) with ⟨v, B, X', hpost, hsteps⟩ | ⟨q, B, X', hpost, hsteps⟩
  · exact Or.inl ⟨v, vm₁, B, X₁.warmed, X', hpost, fun target h => hstep₁ _ fun acts => by rw [doInvoke_state]; exact hsteps.trans h⟩
  · exact Or.inr ⟨q, vm₁, B, X₁.warmed, X', hpost, hstep₁ _ fun acts => by rw [doInvoke_state]; exact hsteps⟩
theorem vx_callVW (X : Stand p l e R s m args below meth c T locs cells slots) (hexec : p.tables.exec = Jvm.exec) {own C : String} {index : Nat} {y : MethodName} {bytes : ByteArray} {maxL : Nat} {ret : Option FieldType} {hh : List (Nat × Nat × Nat × Nat)}
    (hown : s.vm.findClass own = some m.cls) (hlink : (Cond.methodLink own index y).before args s = true) (hinst : (Cond.instanceMethod y).before args s = true) (hsel : (Cond.selects C y y).before args s = true)
    (hcode : (Cond.codeWith y bytes maxL ret hh).before args s = true) (hy : y.cls ≠ "java/lang/invoke/MethodHandle" ∧ y.cls ≠ "java/lang/invoke/VarHandle")
    {W9 : Nat} {Pre : Pt → Array Value → Prop} {Post : Pt → Array Value → Option Value → Pt → Prop} (hK : Back l R p e below s args y 3 W9 Pre Post)
    {b : Addr} {cellB : Cell} (hcell : T.heap[b]? = some cellB) (hobj : cellB.vm.isStatics = false) (hcls : s.vm.findClass C = some cellB.cls)
    {g : JFrame} (hg : g.method = m) (hsize : g.locals.size = c.maxLocals) {argsL rest : List Value} (hlen : ∀ sig, parseMethodDescriptor y.desc = some sig → argsL.length = sig.parameters.length)
    (hstack : g.stack = argsL.reverse ++ .ref b :: rest) (hW : 2 * g.monitorRoom + (rest.map fun v => v.category).sum ≤ W9) (hdg : decode c.code g.pc = .ok (.invokevirtual index, 3))
    (hpre : ∀ vm₁, s.WarmedH vm₁ → Pre ⟨T.setVm vm₁, locs, cells, slots⟩ (Value.ref b :: argsL).toArray) :
    ∃ (v : Option Value) (vm₁ : Vm) (B : Pt), s.WarmedH vm₁ ∧ Stand p l e R s m args below meth c B.U B.locs B.cells B.slots ∧ Post ⟨T.setVm vm₁, locs, cells, slots⟩ (Value.ref b :: argsL).toArray v B ∧
      ∀ target, Steps p.tables e below (B.U.setTop { g with pc := g.pc + 3, stack := v.toList ++ rest }) target → Steps p.tables e below (T.setTop g) target := by
  obtain ⟨mk, methM, hnamed, hmethM, hstM, habM⟩ := Cond.instanceMethod_spec hinst
  obtain ⟨m8, methM', cM, hn8, hmethM', -, -, -, -, -, -, hsigM⟩ := Cond.codeWith_spec hcode
  cases Option.some.inj (hn8.symm.trans hnamed)
  cases hmethM.symm.trans hmethM'
  obtain ⟨c2, r2, m2, q1, q2, q3, q4, kP, hkP, hkPi⟩ := Cond.selects_spec hsel
  cases hcls.symm.trans q1
  cases (State.methodFound?_of_named hnamed hy).symm.trans q2
  cases hnamed.symm.trans q3
  have hselP : selectMethod e.platform s.vm cellB.cls mk = .method mk := by rw [Launch.admits_selectMethod X.admits]; exact q4
  obtain ⟨vm₁, X₁, hstep₁⟩ := X.invokevirtual hexec hown hlink hnamed hmethM hstM hkP hkPi hy (a := b) (cell := cellB) hcell
    (fun z h => by rw [h] at hobj; cases hobj) hselP hmethM habM hkP hkPi (g := g) hg (argsL := argsL) (rest := rest) (hlen _ hsigM) hstack hdg
  obtain ⟨v, B, X', hpost, hsteps⟩ := hK m meth c ⟨T.setVm vm₁, locs, cells, slots⟩ { g with stack := rest } (.invokevirtual index) mk (Value.ref b :: argsL).toArray X₁ hg hsize hdg hW (X₁.named hnamed) (hpre vm₁ X₁.warmed)
  exact ⟨v, vm₁, B, X₁.warmed, X', hpost, fun target h => hstep₁ _ fun acts => by rw [doInvoke_state]; exact hsteps.trans h⟩
abbrev vx_CVW (R : Room) (s : State) (args : Array Value) (own C : String) (index : Nat) (y : MethodName) (bytes : ByteArray) (maxL : Nat) (ret : Option FieldType) (hh : List (Nat × Nat × Nat × Nat)) (ws : List Cond) (rm : Room) (mc ms n : Nat) : Prop :=
  (rm.cells = mc ∧ rm.slots = ms ∧ rm.frames + 1 ≤ R.frames ∧ 8 + (maxL + 11) + rm.locals ≤ R.locals ∧ (∀ w ∈ ws, ∀ (a' : Array Value) (U : State), s.WarmedH U.vm → w.before a' U = true) ∧ Cond.codeWith y bytes maxL ret hh ∈ ws) ∧
  (Cond.codeWith y bytes maxL ret hh).before args s = true ∧ (Cond.initialized y.cls).before args s = true ∧ (y.cls ≠ "java/lang/invoke/MethodHandle" ∧ y.cls ≠ "java/lang/invoke/VarHandle") ∧
  (∀ sig, parseMethodDescriptor y.desc = some sig → n = sig.parameters.length) ∧ (Cond.methodLink own index y).before args s = true ∧ (Cond.instanceMethod y).before args s = true ∧ (Cond.selects C y y).before args s = true
theorem vx_cwVW {own C : String} {index maxL mc ms : Nat} {y : MethodName} {bytes : ByteArray} {ret : Option FieldType} {hh : List (Nat × Nat × Nat × Nat)} {Ts ws ws' : List Cond} {rm : Room} (n : Nat) (ht : ∀ w ∈ Ts, w.before args s = true) (hT : GoodIn Ts (wsV own index C y ws)) (hw : ws = Cond.codeWith y bytes maxL ret hh :: ws') (hrc : rm.cells = mc) (hrs : rm.slots = ms)
    (hd : y.cls = C ∧ y.cls ≠ "java/lang/invoke/MethodHandle" ∧ y.cls ≠ "java/lang/invoke/VarHandle" ∧ (parseMethodDescriptor y.desc).map (fun d => d.parameters.length) = some n) (hR : rm.frames + 1 ≤ R.frames ∧ 8 + (maxL + 11) + rm.locals ≤ R.locals) :
    vx_CVW R s args own C index y bytes maxL ret hh ws rm mc ms n := by
  obtain ⟨hC, hd⟩ := hd
  subst hC
  have ok : ∀ w ∈ wsV own index y.cls y ws, w.before args s = true := fun w h => ht w (hT w h).1
  have hG : GoodIn Ts ws := fun w h => hT w (by unfold wsV; exact List.mem_append_right _ h)
  have hc : Cond.codeWith y bytes maxL ret hh ∈ ws := by rw [hw]; exact List.mem_cons_self
  refine ⟨⟨hrc, hrs, hR.1, hR.2, pay_in ht hG, hc⟩, ht _ (hG _ hc).1, ok _ (by simp [wsV]), ⟨hd.1, hd.2.1⟩, fun sig h => ?_, ok _ (by simp [wsV]), ok _ (by simp [wsV]), ok _ (by simp [wsV])⟩
  have h2 := hd.2.2
  rw [h] at h2
  exact (Option.some.inj h2).symm
theorem vx_runVW {y : MethodName} {bytes cc : ByteArray} {maxL nL mc ms n index : Nat} {ret : Option FieldType} {hh : List (Nat × Nat × Nat × Nat)} {ws : List Cond} {rm : Room} {Pc : Array Value → State → Prop} {Qc : Array Value → State → Outcome → State → Prop} {free : Addr → Prop} {Ts : List Cond} {own C : String} {b : Addr} {As rest : List Value} {g : JFrame}
    (S : CallFix p m c cc nL s args Ts own) (hM : Met l y ws rm Pc Qc mc ms free) (cw : vx_CVW R s args own C index y bytes maxL ret hh ws rm mc ms n) (hp : PreV s H C b Pc As)
    (hg : g.method = m) (hn : As.length = n) (hsize : g.locals.size = nL) (hstack : g.stack = As.reverse ++ .ref b :: rest) (hW : 2 * g.monitorRoom + (rest.map fun v => v.category).sum ≤ 8) (hdg : decode cc g.pc = .ok (.invokevirtual index, 3)) (hf : cells + mc ≤ R.cells ∧ slots + ms ≤ R.slots) :
    va_Run p l e R s m args below meth c H locs cells slots mc ms g rest (Qc (Value.ref b :: As).toArray) free := by
  obtain ⟨⟨hrc, hrs, hfr, hlo, hws, hcw⟩, hcode, hini, hy, hlen, hl, hin, hse⟩ := cw
  have hK : Back l R p e below s args y 3 8 (PreOf R mc ms Pc) (PostOf Qc mc ms free) := va_backW (hh := hh) (bytes := bytes) (maxL := maxL) (ret := ret) hM hp.1 hrc hrs hfr hlo hws hcw (fun a' U hW => word_at hW (Or.inl (by first | rfl | simp [Cond.onTables, Cond.keeps, Cond.steady])) hini)
  obtain ⟨hx, hb, hml, ho, -⟩ := S
  obtain ⟨-, ⟨cellB, hcB, hoB, hclB⟩, hPc⟩ := hp
  intro T hT X
  obtain ⟨v, vm₁, ⟨U', l2, c2, s2⟩, hW₁, X', ⟨g', mk, t, L, e1, e2, hq, h1, hL, h2, h3⟩, st⟩ := vx_callVW X hx (C := C) (hh := hh) (bytes := bytes) (maxL := maxL) (ret := ret) ho hl hin hse hcode hy hK (by rw [hT]; exact hcB) hoB hclB hg (hsize.trans hml.symm) (argsL := As) (rest := rest) (fun sig h => hn.trans (hlen sig h)) hstack hW (by rw [hb]; exact hdg)
    (fun vm₁ hW₁ => ⟨hf.1, hf.2, hPc (T.setVm vm₁) hT hW₁⟩)
  dsimp only [Pt.U, Pt.locs, Pt.cells, Pt.slots] at X' e1 e2 h1 h2 h3 st
  subst h1; subst h2; subst h3
  exact ⟨v, (T.setVm vm₁).calling g' mk (Value.ref b :: As).toArray, t, U', L, hT, X', hL, e1, e2, hq, st⟩
section
variable {y : MethodName} {bytes cc : ByteArray} {maxL nL mc ms n index : Nat} {ret : Option FieldType} {ws : List Cond} {rm : Room} {Pc : Array Value → State → Prop} {Qc : Array Value → State → Outcome → State → Prop} {XC : String → State → State → Prop} {free : Addr → Prop} {Ts : List Cond} {own C : String} {b : Addr} {As rest : List Value} {g : JFrame}
theorem vx_runVX {hh : List (Nat × Nat × Nat × Nat)} (S : CallFix p m c cc nL s args Ts own) (hM : vx_Met l y ws rm Pc Qc XC mc ms free) (cw : vx_CVW R s args own C index y bytes maxL ret hh ws rm mc ms n) (hp : PreV s H C b Pc As)
    (hg : g.method = m) (hn : As.length = n) (hsize : g.locals.size = nL) (hstack : g.stack = As.reverse ++ .ref b :: rest) (hW : 2 * g.monitorRoom + (rest.map fun v => v.category).sum ≤ 8) (hdg : decode cc g.pc = .ok (.invokevirtual index, 3)) (hf : cells + mc ≤ R.cells ∧ slots + ms ≤ R.slots) :
    vx_Run p l e R s m args below meth c H locs cells slots mc ms g rest (Qc (Value.ref b :: As).toArray) XC free := by
  obtain ⟨⟨hrc, hrs, hfr, hlo, hws, hcw⟩, hcode, hini, hy, hlen, hl, hin, hse⟩ := cw
  have hK : vx_Back l R p e below s args y 3 8 (PreOf R mc ms Pc) (PostOf Qc mc ms free) (vx_Post XC mc ms free) := vx_backW (hh := hh) (bytes := bytes) (maxL := maxL) (ret := ret) hM hp.1 hrc hrs hfr hlo hws hcw (fun a' U hW => word_at hW (Or.inl (by first | rfl | simp [Cond.onTables, Cond.keeps, Cond.steady])) hini)
  obtain ⟨hx, hb, hml, ho, -⟩ := S
  obtain ⟨-, ⟨cellB, hcB, hoB, hclB⟩, hPc⟩ := hp
  intro T hT X
  rcases vx_callVX X hx (C := C) (hh := hh) (bytes := bytes) (maxL := maxL) (ret := ret) ho hl hin hse hcode hy hK (by rw [hT]; exact hcB) hoB hclB hg (hsize.trans hml.symm) (argsL := As) (rest := rest) (fun sig h => hn.trans (hlen sig h)) hstack hW (by rw [hb]; exact hdg)
    (fun vm₁ hW₁ => ⟨hf.1, hf.2, hPc (T.setVm vm₁) hT hW₁⟩) with ⟨v, vm₁, ⟨U', l2, c2, s2⟩, hW₁, X', ⟨g', mk, t, L, e1, e2, hq, h1, hL, h2, h3⟩, st⟩ | ⟨q, vm₁, ⟨U', l2, c2, s2⟩, hW₁, X', ⟨g', mk, t, L, E, ce, e1, e2, hq, hce, hcv, hcl, h1, hL, h2, h3⟩, st⟩
  · dsimp only [Pt.U, Pt.locs, Pt.cells, Pt.slots] at X' e1 e2 h1 h2 h3 st
    subst h1; subst h2; subst h3
    exact Or.inl ⟨v, (T.setVm vm₁).calling g' mk (Value.ref b :: As).toArray, t, U', L, hT, X', hL, e1, e2, hq, st⟩
  · dsimp only [Pt.U, Pt.locs, Pt.cells, Pt.slots] at X' e1 e2 h1 h2 h3 st hcl
    subst h1; subst h2; subst h3
    exact Or.inr ⟨q, (T.setVm vm₁).calling g' mk (Value.ref b :: As).toArray, t, U', L, E, ce, hT, X', hL, e1, e2, hq, hce, hcv, vx_cls hW₁ hcl, st⟩
theorem vx_runSX {hh : List (Nat × Nat × Nat × Nat)} (S : CallFix p m c cc nL s args Ts own) (hM : vx_Met l y ws rm Pc Qc XC mc ms free) (cw : vx_CSW R s args own index y bytes maxL ret hh ws rm mc ms n) (hp : PreS s H Pc As)
    (hg : g.method = m) (hn : As.length = n) (hsize : g.locals.size = nL) (hstack : g.stack = As.reverse ++ rest) (hW : 2 * g.monitorRoom + (rest.map fun v => v.category).sum ≤ 8) (hdg : decode cc g.pc = .ok (.invokestatic index, 3)) (hf : cells + mc ≤ R.cells ∧ slots + ms ≤ R.slots) :
    vx_Run p l e R s m args below meth c H locs cells slots mc ms g rest (Qc As.toArray) XC free := by
  obtain ⟨⟨hrc, hrs, hfr, hlo, hws, hcw⟩, hcode, hini, hy, hlen, hl, hstt⟩ := cw
  have hK : vx_Back l R p e below s args y 3 8 (PreOf R mc ms Pc) (PostOf Qc mc ms free) (vx_Post XC mc ms free) := vx_backW (hh := hh) (bytes := bytes) (maxL := maxL) (ret := ret) hM hp.1 hrc hrs hfr hlo hws hcw (fun a' U hW => word_at hW (Or.inl (by first | rfl | simp [Cond.onTables, Cond.keeps, Cond.steady])) hini)
  obtain ⟨hx, hb, hml, ho, -⟩ := S
  intro T hT X
  rcases vx_callSX X hx (hh := hh) (bytes := bytes) (maxL := maxL) (ret := ret) ho hl hstt hini hcode hy hK hg (hsize.trans hml.symm) (argsL := As) (rest := rest) (fun sig h => hn.trans (hlen sig h)) hstack hW (by rw [hb]; exact hdg)
    (fun vm₁ hW₁ => ⟨hf.1, hf.2, hp.2 (T.setVm vm₁) hT hW₁⟩) with ⟨v, vm₁, ⟨U', l2, c2, s2⟩, hW₁, X', ⟨g', mk, t, L, e1, e2, hq, h1, hL, h2, h3⟩, st⟩ | ⟨q, vm₁, ⟨U', l2, c2, s2⟩, hW₁, X', ⟨g', mk, t, L, E, ce, e1, e2, hq, hce, hcv, hcl, h1, hL, h2, h3⟩, st⟩
  · dsimp only [Pt.U, Pt.locs, Pt.cells, Pt.slots] at X' e1 e2 h1 h2 h3 st
    subst h1; subst h2; subst h3
    exact Or.inl ⟨v, (T.setVm vm₁).calling g' mk As.toArray, t, U', L, hT, X', hL, e1, e2, hq, st⟩
  · dsimp only [Pt.U, Pt.locs, Pt.cells, Pt.slots] at X' e1 e2 h1 h2 h3 st hcl
    subst h1; subst h2; subst h3
    exact Or.inr ⟨q, (T.setVm vm₁).calling g' mk As.toArray, t, U', L, E, ce, hT, X', hL, e1, e2, hq, hce, hcv, vx_cls hW₁ hcl, st⟩
end
end VXH
theorem vx_ofWH {l : Launch} {y : MethodName} {ws ws' : List Cond} {rm : Room} {Pc : Array Value → State → Prop} {Qc : Array Value → State → Outcome → State → Prop} {XC : String → State → State → Prop} {mc ms : Nat} {free : Addr → Prop} {cc : ByteArray} {maxL : Nat} {ret : Option FieldType} {hh : List (Nat × Nat × Nat × Nat)}
    (hy : plainName y.cls = true) (hw : ws = Cond.codeWith y cc maxL ret hh :: ws')
    (body : ∀ p e s m args below meth c s₁, BodyLoose p l y (headSpec ws rm) cc maxL ret e s m args below meth c s₁ → c.maxLocals = maxL → Pc args s →
      W p l e (headSpec ws rm).room s m args below meth c s.heap [] 0 0 (vx_MQ below Qc XC args s mc ms free) (entryFrame m args maxL)) : vx_Met l y ws rm Pc Qc XC mc ms free := by
  refine MetFree.of_bodyS (code := cc) (maxLocals := maxL) (ret := ret) hy ?_ ?_
  · intro args s m h hn
    obtain ⟨m9, meth, c, hn9, h1, h2, h3, h4, -, h5, h6, -⟩ := Cond.codeWith_spec (atoms_spec (ws := ws) h _ (by rw [hw]; exact List.mem_cons_self))
    cases hn.symm.trans hn9
    exact ⟨meth, c, h1, h2, h3, h4, h5, h6⟩
  · intro p e s m args below meth c s₁ B hml hP _
    have hh0 : s₁.heap = s.heap := by rw [B.state]; rfl
    obtain ⟨t, a1, o, b1, b2, b3⟩ := body p e s m args below meth c s₁ B hml hP s₁ hh0 (Stand.of_body B)
    exact ⟨t, o, a1, b1, b2, b3⟩
/-! ===== END ===== -/
end
section
def RX0 : String := "FloodGrid$Plain"
def TX0 : u_T := fun k => match k with
  | 0 => ("FloodGrid$Plain", "height", "[I", true)
  | 1 => ("FloodGrid$Plain", "water", "[I", true)
  | 2 => ("FloodGrid$Plain", "dam", "[I", true)
  | 3 => ("FloodGrid$Plain", "wear", "[I", true)
  | 4 => ("FloodGrid$Plain", "drain", "[I", true)
  | 5 => ("FloodGrid$Plain", "people", "[I", true)
  | 6 => ("FloodGrid$Plain", "rain", "[I", true)
  | 7 => ("FloodGrid$Plain", "hour", "I", false)
  | 8 => ("FloodGrid$Plain", "broken", "I", false)
  | 9 => ("FloodGrid$Plain", "drained", "I", false)
  | 10 => ("FloodGrid$Plain", "left", "I", false)
  | 11 => ("FloodGrid$Plain", "crests", "[I", true)
  | 12 => ("FloodGrid$Plain", "gained", "[I", true)
  | 13 => ("FloodGrid$Plain", "seen", "[I", true)
  | _ => ("FloodGrid$Plain", "found", "[I", true)
def tyX0 : Nat → FieldType := fun k => match k with
  | 0 => .array .int
  | 1 => .array .int
  | 2 => .array .int
  | 3 => .array .int
  | 4 => .array .int
  | 5 => .array .int
  | 6 => .array .int
  | 7 => .int
  | 8 => .int
  | 9 => .int
  | 10 => .int
  | 11 => .array .int
  | 12 => .array .int
  | 13 => .array .int
  | _ => .array .int
abbrev wsX00 : List Cond := u_ws RX0 TX0 15
theorem nmX0 : ∀ a, a < 15 → ∀ b, b < 15 → a ≠ b → (TX0 a).2.1 ≠ (TX0 b).2.1 := by decide +kernel
theorem tyX0_ok : ∀ k, k < 15 → parseFieldDescriptor (TX0 k).2.2.1 = some (tyX0 k) := by decide +kernel
abbrev cX0_init : ByteArray := prog_2_method_1_code
def yX0_init : MethodName := ⟨RX0, "<init>", "()V"⟩
abbrev cX0_becomeLike : ByteArray := prog_2_method_2_code
def yX0_becomeLike : MethodName := ⟨RX0, "becomeLike", "(LFloodGrid$Plain;)V"⟩
abbrev cX0_goHours : ByteArray := prog_2_method_3_code
def yX0_goHours : MethodName := ⟨RX0, "goHours", "(I)I"⟩
abbrev cX0_goOneHour : ByteArray := prog_2_method_4_code
def yX0_goOneHour : MethodName := ⟨RX0, "goOneHour", "()V"⟩
abbrev cX0_letRainFall : ByteArray := prog_2_method_5_code
def yX0_letRainFall : MethodName := ⟨RX0, "letRainFall", "()V"⟩
abbrev cX0_letWaterRun : ByteArray := prog_2_method_6_code
def yX0_letWaterRun : MethodName := ⟨RX0, "letWaterRun", "()V"⟩
abbrev cX0_give : ByteArray := prog_2_method_7_code
def yX0_give : MethodName := ⟨RX0, "give", "(II)V"⟩
abbrev cX0_lowestNeighbour : ByteArray := prog_2_method_8_code
def yX0_lowestNeighbour : MethodName := ⟨RX0, "lowestNeighbour", "(I)I"⟩
abbrev cX0_wearDams : ByteArray := prog_2_method_9_code
def yX0_wearDams : MethodName := ⟨RX0, "wearDams", "()V"⟩
abbrev cX0_drainCells : ByteArray := prog_2_method_10_code
def yX0_drainCells : MethodName := ⟨RX0, "drainCells", "()V"⟩
abbrev cX0_leaveTowns : ByteArray := prog_2_method_11_code
def yX0_leaveTowns : MethodName := ⟨RX0, "leaveTowns", "()V"⟩
abbrev cX0_levelOf : ByteArray := prog_2_method_12_code
def yX0_levelOf : MethodName := ⟨RX0, "levelOf", "(I)I"⟩
abbrev cX0_crestOf : ByteArray := prog_2_method_13_code
def yX0_crestOf : MethodName := ⟨RX0, "crestOf", "(I)I"⟩
abbrev cX0_cellNumber : ByteArray := prog_2_method_14_code
def yX0_cellNumber : MethodName := ⟨RX0, "cellNumber", "(II)I"⟩
abbrev cX0_tally : ByteArray := prog_2_method_15_code
def yX0_tally : MethodName := ⟨RX0, "tally", "(I)I"⟩
abbrev cX0_wetCells : ByteArray := prog_2_method_16_code
def yX0_wetCells : MethodName := ⟨RX0, "wetCells", "()I"⟩
abbrev cX0_sum : ByteArray := prog_2_method_17_code
def yX0_sum : MethodName := ⟨RX0, "sum", "([I)I"⟩
abbrev cX0_above0 : ByteArray := prog_2_method_18_code
def yX0_above0 : MethodName := ⟨RX0, "above0", "([I)I"⟩
abbrev cX0_lakeSize : ByteArray := prog_2_method_19_code
def yX0_lakeSize : MethodName := ⟨RX0, "lakeSize", "(I)I"⟩
abbrev cX0_lakes : ByteArray := prog_2_method_20_code
def yX0_lakes : MethodName := ⟨RX0, "lakes", "()I"⟩
abbrev cX0_spreadFrom : ByteArray := prog_2_method_21_code
def yX0_spreadFrom : MethodName := ⟨RX0, "spreadFrom", "(I)I"⟩
abbrev cX0_meet : ByteArray := prog_2_method_22_code
def yX0_meet : MethodName := ⟨RX0, "meet", "(II)I"⟩
abbrev cX0_neighbourOf : ByteArray := prog_2_method_23_code
def yX0_neighbourOf : MethodName := ⟨RX0, "neighbourOf", "(II)I"⟩
def RX1 : String := "FloodGrid"
def TX1 : u_T := fun k => match k with
  | 0 => ("FloodGrid", "now", "LFloodGrid$Plain;", true)
  | _ => ("FloodGrid", "ahead", "LFloodGrid$Plain;", true)
def tyX1 : Nat → FieldType := fun k => match k with
  | 0 => .object "FloodGrid$Plain"
  | _ => .object "FloodGrid$Plain"
abbrev wsX10 : List Cond := u_ws RX1 TX1 2
theorem nmX1 : ∀ a, a < 2 → ∀ b, b < 2 → a ≠ b → (TX1 a).2.1 ≠ (TX1 b).2.1 := by decide +kernel
theorem tyX1_ok : ∀ k, k < 2 → parseFieldDescriptor (TX1 k).2.2.1 = some (tyX1 k) := by decide +kernel
abbrev cX1_init : ByteArray := prog_1_method_1_code
def yX1_init : MethodName := ⟨RX1, "<init>", "()V"⟩
abbrev cX1_raise : ByteArray := prog_1_method_2_code
def yX1_raise : MethodName := ⟨RX1, "raise", "(III)I"⟩
abbrev cX1_pour : ByteArray := prog_1_method_3_code
def yX1_pour : MethodName := ⟨RX1, "pour", "(III)I"⟩
abbrev cX1_dam : ByteArray := prog_1_method_4_code
def yX1_dam : MethodName := ⟨RX1, "dam", "(III)I"⟩
abbrev cX1_drain : ByteArray := prog_1_method_5_code
def yX1_drain : MethodName := ⟨RX1, "drain", "(III)I"⟩
abbrev cX1_settle : ByteArray := prog_1_method_6_code
def yX1_settle : MethodName := ⟨RX1, "settle", "(III)I"⟩
abbrev cX1_setRain : ByteArray := prog_1_method_7_code
def yX1_setRain : MethodName := ⟨RX1, "setRain", "(II)I"⟩
abbrev cX1_cell : ByteArray := prog_1_method_8_code
def yX1_cell : MethodName := ⟨RX1, "cell", "(III)I"⟩
abbrev cX1_lake : ByteArray := prog_1_method_9_code
def yX1_lake : MethodName := ⟨RX1, "lake", "(II)I"⟩
abbrev cX1_count : ByteArray := prog_1_method_10_code
def yX1_count : MethodName := ⟨RX1, "count", "(I)I"⟩
abbrev cX1_pass : ByteArray := prog_1_method_11_code
def yX1_pass : MethodName := ⟨RX1, "pass", "(I)I"⟩
abbrev cX1_floods : ByteArray := prog_1_method_12_code
def yX1_floods : MethodName := ⟨RX1, "floods", "(II)I"⟩
abbrev cX1_breaks : ByteArray := prog_1_method_13_code
def yX1_breaks : MethodName := ⟨RX1, "breaks", "(II)I"⟩
abbrev cX1_foresee : ByteArray := prog_1_method_14_code
def yX1_foresee : MethodName := ⟨RX1, "foresee", "(II)I"⟩
abbrev cX1_mean : ByteArray := prog_1_method_17_code
def yX1_mean : MethodName := ⟨RX1, "mean", "()D"⟩
abbrev cX1_placeOf : ByteArray := prog_1_method_21_code
def yX1_placeOf : MethodName := ⟨RX1, "placeOf", "(II)I"⟩
abbrev cX1_requireIndex : ByteArray := prog_1_method_22_code
def yX1_requireIndex : MethodName := ⟨RX1, "requireIndex", "(III)V"⟩
abbrev cX1_requireWithin : ByteArray := prog_1_method_23_code
def yX1_requireWithin : MethodName := ⟨RX1, "requireWithin", "(III)V"⟩
def RX2 : String := "FloodGridLaw$Sim"
def TX2 : u_T := fun k => match k with
  | 0 => ("FloodGridLaw$Sim", "height", "[[I", false)
  | 1 => ("FloodGridLaw$Sim", "water", "[[I", false)
  | 2 => ("FloodGridLaw$Sim", "dam", "[[I", false)
  | 3 => ("FloodGridLaw$Sim", "wear", "[[I", false)
  | 4 => ("FloodGridLaw$Sim", "drain", "[[I", false)
  | 5 => ("FloodGridLaw$Sim", "town", "[[I", false)
  | 6 => ("FloodGridLaw$Sim", "rain", "[I", false)
  | 7 => ("FloodGridLaw$Sim", "hour", "I", false)
  | 8 => ("FloodGridLaw$Sim", "broke", "I", false)
  | 9 => ("FloodGridLaw$Sim", "drained", "I", false)
  | _ => ("FloodGridLaw$Sim", "left", "I", false)
def tyX2 : Nat → FieldType := fun k => match k with
  | 0 => .array (.array .int)
  | 1 => .array (.array .int)
  | 2 => .array (.array .int)
  | 3 => .array (.array .int)
  | 4 => .array (.array .int)
  | 5 => .array (.array .int)
  | 6 => .array .int
  | 7 => .int
  | 8 => .int
  | 9 => .int
  | _ => .int
abbrev wsX20 : List Cond := u_ws RX2 TX2 11
theorem nmX2 : ∀ a, a < 11 → ∀ b, b < 11 → a ≠ b → (TX2 a).2.1 ≠ (TX2 b).2.1 := by decide +kernel
theorem tyX2_ok : ∀ k, k < 11 → parseFieldDescriptor (TX2 k).2.2.1 = some (tyX2 k) := by decide +kernel
abbrev cX2_init : ByteArray := prog_4_method_1_code
def yX2_init : MethodName := ⟨RX2, "<init>", "()V"⟩
abbrev cX2_crest : ByteArray := prog_4_method_4_code
def yX2_crest : MethodName := ⟨RX2, "crest", "(II)I"⟩
abbrev cX2_pass : ByteArray := prog_4_method_5_code
def yX2_pass : MethodName := ⟨RX2, "pass", "()I"⟩
abbrev cX2_spread : ByteArray := prog_4_method_6_code
def yX2_spread : MethodName := ⟨RX2, "spread", "([[ZII)I"⟩
abbrev cX2_told : ByteArray := prog_4_method_8_code
def yX2_told : MethodName := ⟨RX2, "told", "(I)I"⟩
abbrev cX2_isSame : ByteArray := prog_4_method_9_code
def yX2_isSame : MethodName := ⟨RX2, "isSame", "(LFloodGrid;)Z"⟩
def RX3 : String := "FloodGridModel"
def TX3 : u_T := fun k => match k with
  | _ => ("", "", "", false)
def tyX3 : Nat → FieldType := fun k => match k with
  | _ => .int
abbrev wsX30 : List Cond := u_ws RX3 TX3 0
theorem nmX3 : ∀ a, a < 0 → ∀ b, b < 0 → a ≠ b → (TX3 a).2.1 ≠ (TX3 b).2.1 := by decide +kernel
theorem tyX3_ok : ∀ k, k < 0 → parseFieldDescriptor (TX3 k).2.2.1 = some (tyX3 k) := by decide +kernel
def RJx145de : String := "java/io/Serializable"
def TJx145de : u_T := fun k => match k with
  | _ => ("", "", "", false)
def tyJx145de : Nat → FieldType := fun k => match k with
  | _ => .int
abbrev wsJx145de0 : List Cond := u_ws RJx145de TJx145de 0
theorem nmJx145de : ∀ a, a < 0 → ∀ b, b < 0 → a ≠ b → (TJx145de a).2.1 ≠ (TJx145de b).2.1 := by decide +kernel
theorem tyJx145de_ok : ∀ k, k < 0 → parseFieldDescriptor (TJx145de k).2.2.1 = some (tyJx145de k) := by decide +kernel
def RJ9 : String := "java/lang/Math"
def TJ9 : u_T := fun k => match k with
  | _ => ("", "", "", false)
def tyJ9 : Nat → FieldType := fun k => match k with
  | _ => .int
abbrev wsJ90 : List Cond := u_ws RJ9 TJ9 0
theorem nmJ9 : ∀ a, a < 0 → ∀ b, b < 0 → a ≠ b → (TJ9 a).2.1 ≠ (TJ9 b).2.1 := by decide +kernel
theorem tyJ9_ok : ∀ k, k < 0 → parseFieldDescriptor (TJ9 k).2.2.1 = some (tyJ9 k) := by decide +kernel
abbrev cJ9_floorMod_7cf53 : ByteArray := prog_9_method_50_code
def yJ9_floorMod_7cf53 : MethodName := ⟨RJ9, "floorMod", "(II)I"⟩
abbrev cJ9_max_7cf53 : ByteArray := prog_9_method_65_code
def yJ9_max_7cf53 : MethodName := ⟨RJ9, "max", "(II)I"⟩
abbrev cJ9_min_7cf53 : ByteArray := prog_9_method_69_code
def yJ9_min_7cf53 : MethodName := ⟨RJ9, "min", "(II)I"⟩
def RJ0 : String := "java/lang/String"
def TJ0 : u_T := fun k => match k with
  | _ => ("", "", "", false)
def tyJ0 : Nat → FieldType := fun k => match k with
  | _ => .int
abbrev wsJ00 : List Cond := u_ws RJ0 TJ0 0
theorem nmJ0 : ∀ a, a < 0 → ∀ b, b < 0 → a ≠ b → (TJ0 a).2.1 ≠ (TJ0 b).2.1 := by decide +kernel
theorem tyJ0_ok : ∀ k, k < 0 → parseFieldDescriptor (TJ0 k).2.2.1 = some (tyJ0 k) := by decide +kernel
def RJ10 : String := "java/lang/System"
def TJ10 : u_T := fun k => match k with
  | _ => ("", "", "", false)
def tyJ10 : Nat → FieldType := fun k => match k with
  | _ => .int
abbrev wsJ100 : List Cond := u_ws RJ10 TJ10 0
theorem nmJ10 : ∀ a, a < 0 → ∀ b, b < 0 → a ≠ b → (TJ10 a).2.1 ≠ (TJ10 b).2.1 := by decide +kernel
theorem tyJ10_ok : ∀ k, k < 0 → parseFieldDescriptor (TJ10 k).2.2.1 = some (tyJ10 k) := by decide +kernel
def RJ7 : String := "java/util/Arrays"
def TJ7 : u_T := fun k => match k with
  | _ => ("", "", "", false)
def tyJ7 : Nat → FieldType := fun k => match k with
  | _ => .int
abbrev wsJ70 : List Cond := u_ws RJ7 TJ7 0
theorem nmJ7 : ∀ a, a < 0 → ∀ b, b < 0 → a ≠ b → (TJ7 a).2.1 ≠ (TJ7 b).2.1 := by decide +kernel
theorem tyJ7_ok : ∀ k, k < 0 → parseFieldDescriptor (TJ7 k).2.2.1 = some (tyJ7 k) := by decide +kernel
abbrev cJ7_fill_53178 : ByteArray := prog_14_method_103_code
def yJ7_fill_53178 : MethodName := ⟨RJ7, "fill", "([II)V"⟩
def RL : String := "FloodGridLaw"
abbrev cL_below : ByteArray := method_2_code
def yL_below : MethodName := ⟨RL, "below", "(II)I"⟩
abbrev cL_cell : ByteArray := method_3_code
def yL_cell : MethodName := ⟨RL, "cell", "([II)I"⟩
abbrev cL_act : ByteArray := method_4_code
def yL_act : MethodName := ⟨RL, "act", "(LFloodGrid;LFloodGridLaw$Sim;I)Z"⟩
abbrev cL_build : ByteArray := method_5_code
def yL_build : MethodName := ⟨RL, "build", "(LFloodGrid;[I)LFloodGridLaw$Sim;"⟩
abbrev cL_law : ByteArray := code
def yL_law : MethodName := ⟨RL, "law", "([I)Z"⟩
def wsJ7_fill_53178 : List Cond := .code yJ7_fill_53178 cJ7_fill_53178 4 none :: ([])
def wsX0_init : List Cond := .code yX0_init cX0_init 1 none :: ([.methodLink RX0 3 objectInit, .instanceMethod objectInit, .code objectInit ⟨#[0xb1]⟩ 1 none, .arrayClass .int, .fieldLink RX0 9 "FloodGrid$Plain" "height" "[I", .fieldLink RX0 15 "FloodGrid$Plain" "water" "[I", .fieldLink RX0 18 "FloodGrid$Plain" "dam" "[I", .fieldLink RX0 21 "FloodGrid$Plain" "wear" "[I", .fieldLink RX0 24 "FloodGrid$Plain" "drain" "[I", .fieldLink RX0 27 "FloodGrid$Plain" "people" "[I", .fieldLink RX0 30 "FloodGrid$Plain" "rain" "[I", .fieldLink RX0 33 "FloodGrid$Plain" "crests" "[I", .fieldLink RX0 36 "FloodGrid$Plain" "gained" "[I", .fieldLink RX0 39 "FloodGrid$Plain" "seen" "[I", .fieldLink RX0 42 "FloodGrid$Plain" "found" "[I", .methodLink RX0 45 yJ7_fill_53178, .static yJ7_fill_53178, .initialized RJ7, .code yJ7_fill_53178 cJ7_fill_53178 4 none] ++ wsX00)
def wsX0_becomeLike : List Cond := .code yX0_becomeLike cX0_becomeLike 2 none :: ([.fieldLink RX0 9 "FloodGrid$Plain" "height" "[I", .methodLink RX0 51 arraycopyName, .native arraycopyName, .static arraycopyName, .initialized "java/lang/System", .fieldLink RX0 15 "FloodGrid$Plain" "water" "[I", .fieldLink RX0 18 "FloodGrid$Plain" "dam" "[I", .fieldLink RX0 21 "FloodGrid$Plain" "wear" "[I", .fieldLink RX0 24 "FloodGrid$Plain" "drain" "[I", .fieldLink RX0 27 "FloodGrid$Plain" "people" "[I", .fieldLink RX0 30 "FloodGrid$Plain" "rain" "[I", .fieldLink RX0 57 "FloodGrid$Plain" "hour" "I", .fieldLink RX0 61 "FloodGrid$Plain" "broken" "I", .fieldLink RX0 64 "FloodGrid$Plain" "drained" "I", .fieldLink RX0 67 "FloodGrid$Plain" "left" "I"] ++ wsX00)
def wsJ9_floorMod_7cf53 : List Cond := .code yJ9_floorMod_7cf53 cJ9_floorMod_7cf53 3 (some .int) :: ([])
def wsX0_letRainFall : List Cond := .code yX0_letRainFall cX0_letRainFall 3 none :: ([.fieldLink RX0 30 "FloodGrid$Plain" "rain" "[I", .fieldLink RX0 57 "FloodGrid$Plain" "hour" "I", .fieldLink RX0 15 "FloodGrid$Plain" "water" "[I", .methodLink RX0 88 yJ9_floorMod_7cf53, .static yJ9_floorMod_7cf53, .initialized RJ9, .code yJ9_floorMod_7cf53 cJ9_floorMod_7cf53 3 (some .int)] ++ wsX00)
def wsX0_crestOf : List Cond := .code yX0_crestOf cX0_crestOf 2 (some .int) :: ([.fieldLink RX0 9 "FloodGrid$Plain" "height" "[I", .fieldLink RX0 18 "FloodGrid$Plain" "dam" "[I", .fieldLink RX0 15 "FloodGrid$Plain" "water" "[I", .methodLink RX0 114 Lib.Math.max.name, .static Lib.Math.max.name, .initialized "java/lang/Math", .code Lib.Math.max.name Lib.Math.max.code 2 (some .int)] ++ wsX00)
def wsX0_neighbourOf : List Cond := .code yX0_neighbourOf cX0_neighbourOf 4 (some .int) :: ([])
def wsX0_lowestNeighbour : List Cond := .code yX0_lowestNeighbour cX0_lowestNeighbour 5 (some .int) :: ([.fieldLink RX0 33 "FloodGrid$Plain" "crests" "[I", .methodLink RX0 111 yX0_neighbourOf, .static yX0_neighbourOf, .initialized RX0, .code yX0_neighbourOf cX0_neighbourOf 4 (some .int)] ++ wsX00)
def wsX0_levelOf : List Cond := .code yX0_levelOf cX0_levelOf 2 (some .int) :: ([.fieldLink RX0 9 "FloodGrid$Plain" "height" "[I", .fieldLink RX0 15 "FloodGrid$Plain" "water" "[I"] ++ wsX00)
def wsX0_give : List Cond := .code yX0_give cX0_give 5 none :: ([.fieldLink RX0 33 "FloodGrid$Plain" "crests" "[I", .fieldLink RX0 15 "FloodGrid$Plain" "water" "[I", .fieldLink RX0 18 "FloodGrid$Plain" "dam" "[I", .methodLink RX0 108 Lib.Math.min.name, .static Lib.Math.min.name, .initialized "java/lang/Math", .code Lib.Math.min.name Lib.Math.min.code 2 (some .int), .fieldLink RX0 36 "FloodGrid$Plain" "gained" "[I", .methodLink RX0 105 yX0_levelOf, .instanceMethod yX0_levelOf, .selects RX0 yX0_levelOf yX0_levelOf, .initialized RX0, .code yX0_levelOf cX0_levelOf 2 (some .int), .fieldLink RX0 9 "FloodGrid$Plain" "height" "[I"] ++ wsX00)
def wsX0_letWaterRun_r1 : List Cond := [Cond.fieldLink RX0 33 "FloodGrid$Plain" "crests" "[I", Cond.fieldLink RX0 36 "FloodGrid$Plain" "gained" "[I", Cond.fieldLink RX0 15 "FloodGrid$Plain" "water" "[I", Cond.fieldLink RX0 18 "FloodGrid$Plain" "dam" "[I", Cond.methodLink RX0 94 yX0_crestOf, Cond.instanceMethod yX0_crestOf, Cond.selects RX0 yX0_crestOf yX0_crestOf, Cond.initialized RX0, Cond.code yX0_crestOf cX0_crestOf 2 (some .int), Cond.fieldLink RX0 9 "FloodGrid$Plain" "height" "[I", Cond.methodLink RX0 114 Lib.Math.max.name, Cond.static Lib.Math.max.name, Cond.initialized "java/lang/Math", Cond.code Lib.Math.max.name Lib.Math.max.code 2 (some .int), Cond.methodLink RX0 45 yJ7_fill_53178, Cond.static yJ7_fill_53178, Cond.initialized RJ7, Cond.code yJ7_fill_53178 cJ7_fill_53178 4 none, Cond.methodLink RX0 98 yX0_lowestNeighbour, Cond.instanceMethod yX0_lowestNeighbour, Cond.selects RX0 yX0_lowestNeighbour yX0_lowestNeighbour, Cond.code yX0_lowestNeighbour cX0_lowestNeighbour 5 (some .int), Cond.methodLink RX0 111 yX0_neighbourOf, Cond.static yX0_neighbourOf]
def wsX0_letWaterRun_r2 : List Cond := [Cond.code yX0_neighbourOf cX0_neighbourOf 4 (some .int), Cond.methodLink RX0 101 yX0_give, Cond.instanceMethod yX0_give, Cond.selects RX0 yX0_give yX0_give, Cond.code yX0_give cX0_give 5 none, Cond.methodLink RX0 108 Lib.Math.min.name, Cond.static Lib.Math.min.name, Cond.code Lib.Math.min.name Lib.Math.min.code 2 (some .int), Cond.methodLink RX0 105 yX0_levelOf, Cond.instanceMethod yX0_levelOf, Cond.selects RX0 yX0_levelOf yX0_levelOf, Cond.code yX0_levelOf cX0_levelOf 2 (some .int)]
def wsX0_letWaterRun : List Cond := .code yX0_letWaterRun cX0_letWaterRun 2 none :: ((wsX0_letWaterRun_r1 ++ wsX0_letWaterRun_r2) ++ wsX00)
def wsX0_wearDams : List Cond := .code yX0_wearDams cX0_wearDams 2 none :: ([.fieldLink RX0 18 "FloodGrid$Plain" "dam" "[I", .fieldLink RX0 15 "FloodGrid$Plain" "water" "[I", .fieldLink RX0 21 "FloodGrid$Plain" "wear" "[I", .fieldLink RX0 61 "FloodGrid$Plain" "broken" "I"] ++ wsX00)
def wsX0_drainCells : List Cond := .code yX0_drainCells cX0_drainCells 3 none :: ([.fieldLink RX0 24 "FloodGrid$Plain" "drain" "[I", .fieldLink RX0 15 "FloodGrid$Plain" "water" "[I", .methodLink RX0 108 Lib.Math.min.name, .static Lib.Math.min.name, .initialized "java/lang/Math", .code Lib.Math.min.name Lib.Math.min.code 2 (some .int), .fieldLink RX0 64 "FloodGrid$Plain" "drained" "I"] ++ wsX00)
def wsX0_leaveTowns : List Cond := .code yX0_leaveTowns cX0_leaveTowns 3 none :: ([.fieldLink RX0 15 "FloodGrid$Plain" "water" "[I", .fieldLink RX0 27 "FloodGrid$Plain" "people" "[I", .methodLink RX0 108 Lib.Math.min.name, .static Lib.Math.min.name, .initialized "java/lang/Math", .code Lib.Math.min.name Lib.Math.min.code 2 (some .int), .fieldLink RX0 67 "FloodGrid$Plain" "left" "I"] ++ wsX00)
def wsX0_goOneHour_r1 : List Cond := [Cond.fieldLink RX0 57 "FloodGrid$Plain" "hour" "I", Cond.methodLink RX0 73 yX0_letRainFall, Cond.instanceMethod yX0_letRainFall, Cond.selects RX0 yX0_letRainFall yX0_letRainFall, Cond.initialized RX0, Cond.code yX0_letRainFall cX0_letRainFall 3 none, Cond.fieldLink RX0 30 "FloodGrid$Plain" "rain" "[I", Cond.fieldLink RX0 15 "FloodGrid$Plain" "water" "[I", Cond.methodLink RX0 88 yJ9_floorMod_7cf53, Cond.static yJ9_floorMod_7cf53, Cond.initialized RJ9, Cond.code yJ9_floorMod_7cf53 cJ9_floorMod_7cf53 3 (some .int), Cond.methodLink RX0 76 yX0_letWaterRun, Cond.instanceMethod yX0_letWaterRun, Cond.selects RX0 yX0_letWaterRun yX0_letWaterRun, Cond.code yX0_letWaterRun cX0_letWaterRun 2 none, Cond.fieldLink RX0 33 "FloodGrid$Plain" "crests" "[I", Cond.fieldLink RX0 36 "FloodGrid$Plain" "gained" "[I", Cond.fieldLink RX0 18 "FloodGrid$Plain" "dam" "[I", Cond.methodLink RX0 94 yX0_crestOf, Cond.instanceMethod yX0_crestOf, Cond.selects RX0 yX0_crestOf yX0_crestOf, Cond.code yX0_crestOf cX0_crestOf 2 (some .int), Cond.fieldLink RX0 9 "FloodGrid$Plain" "height" "[I"]
def wsX0_goOneHour_r2 : List Cond := [Cond.methodLink RX0 114 Lib.Math.max.name, Cond.static Lib.Math.max.name, Cond.initialized "java/lang/Math", Cond.code Lib.Math.max.name Lib.Math.max.code 2 (some .int), Cond.methodLink RX0 45 yJ7_fill_53178, Cond.static yJ7_fill_53178, Cond.initialized RJ7, Cond.code yJ7_fill_53178 cJ7_fill_53178 4 none, Cond.methodLink RX0 98 yX0_lowestNeighbour, Cond.instanceMethod yX0_lowestNeighbour, Cond.selects RX0 yX0_lowestNeighbour yX0_lowestNeighbour, Cond.code yX0_lowestNeighbour cX0_lowestNeighbour 5 (some .int), Cond.methodLink RX0 111 yX0_neighbourOf, Cond.static yX0_neighbourOf, Cond.code yX0_neighbourOf cX0_neighbourOf 4 (some .int), Cond.methodLink RX0 101 yX0_give, Cond.instanceMethod yX0_give, Cond.selects RX0 yX0_give yX0_give, Cond.code yX0_give cX0_give 5 none, Cond.methodLink RX0 108 Lib.Math.min.name, Cond.static Lib.Math.min.name, Cond.code Lib.Math.min.name Lib.Math.min.code 2 (some .int), Cond.methodLink RX0 105 yX0_levelOf, Cond.instanceMethod yX0_levelOf]
def wsX0_goOneHour_r3 : List Cond := [Cond.selects RX0 yX0_levelOf yX0_levelOf, Cond.code yX0_levelOf cX0_levelOf 2 (some .int), Cond.methodLink RX0 79 yX0_wearDams, Cond.instanceMethod yX0_wearDams, Cond.selects RX0 yX0_wearDams yX0_wearDams, Cond.code yX0_wearDams cX0_wearDams 2 none, Cond.fieldLink RX0 21 "FloodGrid$Plain" "wear" "[I", Cond.fieldLink RX0 61 "FloodGrid$Plain" "broken" "I", Cond.methodLink RX0 82 yX0_drainCells, Cond.instanceMethod yX0_drainCells, Cond.selects RX0 yX0_drainCells yX0_drainCells, Cond.code yX0_drainCells cX0_drainCells 3 none, Cond.fieldLink RX0 24 "FloodGrid$Plain" "drain" "[I", Cond.fieldLink RX0 64 "FloodGrid$Plain" "drained" "I", Cond.methodLink RX0 85 yX0_leaveTowns, Cond.instanceMethod yX0_leaveTowns, Cond.selects RX0 yX0_leaveTowns yX0_leaveTowns, Cond.code yX0_leaveTowns cX0_leaveTowns 3 none, Cond.fieldLink RX0 27 "FloodGrid$Plain" "people" "[I", Cond.fieldLink RX0 67 "FloodGrid$Plain" "left" "I"]
def wsX0_goOneHour : List Cond := .code yX0_goOneHour cX0_goOneHour 1 none :: ((wsX0_goOneHour_r1 ++ (wsX0_goOneHour_r2 ++ wsX0_goOneHour_r3)) ++ wsX00)
def wsX0_goHours_r1 : List Cond := [Cond.fieldLink RX0 67 "FloodGrid$Plain" "left" "I", Cond.methodLink RX0 70 yX0_goOneHour, Cond.instanceMethod yX0_goOneHour, Cond.selects RX0 yX0_goOneHour yX0_goOneHour, Cond.initialized RX0, Cond.code yX0_goOneHour cX0_goOneHour 1 none, Cond.fieldLink RX0 57 "FloodGrid$Plain" "hour" "I", Cond.methodLink RX0 73 yX0_letRainFall, Cond.instanceMethod yX0_letRainFall, Cond.selects RX0 yX0_letRainFall yX0_letRainFall, Cond.code yX0_letRainFall cX0_letRainFall 3 none, Cond.fieldLink RX0 30 "FloodGrid$Plain" "rain" "[I", Cond.fieldLink RX0 15 "FloodGrid$Plain" "water" "[I", Cond.methodLink RX0 88 yJ9_floorMod_7cf53, Cond.static yJ9_floorMod_7cf53, Cond.initialized RJ9, Cond.code yJ9_floorMod_7cf53 cJ9_floorMod_7cf53 3 (some .int), Cond.methodLink RX0 76 yX0_letWaterRun, Cond.instanceMethod yX0_letWaterRun, Cond.selects RX0 yX0_letWaterRun yX0_letWaterRun, Cond.code yX0_letWaterRun cX0_letWaterRun 2 none, Cond.fieldLink RX0 33 "FloodGrid$Plain" "crests" "[I", Cond.fieldLink RX0 36 "FloodGrid$Plain" "gained" "[I", Cond.fieldLink RX0 18 "FloodGrid$Plain" "dam" "[I"]
def wsX0_goHours_r2 : List Cond := [Cond.methodLink RX0 94 yX0_crestOf, Cond.instanceMethod yX0_crestOf, Cond.selects RX0 yX0_crestOf yX0_crestOf, Cond.code yX0_crestOf cX0_crestOf 2 (some .int), Cond.fieldLink RX0 9 "FloodGrid$Plain" "height" "[I", Cond.methodLink RX0 114 Lib.Math.max.name, Cond.static Lib.Math.max.name, Cond.initialized "java/lang/Math", Cond.code Lib.Math.max.name Lib.Math.max.code 2 (some .int), Cond.methodLink RX0 45 yJ7_fill_53178, Cond.static yJ7_fill_53178, Cond.initialized RJ7, Cond.code yJ7_fill_53178 cJ7_fill_53178 4 none, Cond.methodLink RX0 98 yX0_lowestNeighbour, Cond.instanceMethod yX0_lowestNeighbour, Cond.selects RX0 yX0_lowestNeighbour yX0_lowestNeighbour, Cond.code yX0_lowestNeighbour cX0_lowestNeighbour 5 (some .int), Cond.methodLink RX0 111 yX0_neighbourOf, Cond.static yX0_neighbourOf, Cond.code yX0_neighbourOf cX0_neighbourOf 4 (some .int), Cond.methodLink RX0 101 yX0_give, Cond.instanceMethod yX0_give, Cond.selects RX0 yX0_give yX0_give, Cond.code yX0_give cX0_give 5 none]
def wsX0_goHours_r3 : List Cond := [Cond.methodLink RX0 108 Lib.Math.min.name, Cond.static Lib.Math.min.name, Cond.code Lib.Math.min.name Lib.Math.min.code 2 (some .int), Cond.methodLink RX0 105 yX0_levelOf, Cond.instanceMethod yX0_levelOf, Cond.selects RX0 yX0_levelOf yX0_levelOf, Cond.code yX0_levelOf cX0_levelOf 2 (some .int), Cond.methodLink RX0 79 yX0_wearDams, Cond.instanceMethod yX0_wearDams, Cond.selects RX0 yX0_wearDams yX0_wearDams, Cond.code yX0_wearDams cX0_wearDams 2 none, Cond.fieldLink RX0 21 "FloodGrid$Plain" "wear" "[I", Cond.fieldLink RX0 61 "FloodGrid$Plain" "broken" "I", Cond.methodLink RX0 82 yX0_drainCells, Cond.instanceMethod yX0_drainCells, Cond.selects RX0 yX0_drainCells yX0_drainCells, Cond.code yX0_drainCells cX0_drainCells 3 none, Cond.fieldLink RX0 24 "FloodGrid$Plain" "drain" "[I", Cond.fieldLink RX0 64 "FloodGrid$Plain" "drained" "I", Cond.methodLink RX0 85 yX0_leaveTowns, Cond.instanceMethod yX0_leaveTowns, Cond.selects RX0 yX0_leaveTowns yX0_leaveTowns, Cond.code yX0_leaveTowns cX0_leaveTowns 3 none, Cond.fieldLink RX0 27 "FloodGrid$Plain" "people" "[I"]
def wsX0_goHours : List Cond := .code yX0_goHours cX0_goHours 4 (some .int) :: ((wsX0_goHours_r1 ++ (wsX0_goHours_r2 ++ wsX0_goHours_r3)) ++ wsX00)
def wsX0_cellNumber : List Cond := .code yX0_cellNumber cX0_cellNumber 3 (some .int) :: ([.fieldLink RX0 9 "FloodGrid$Plain" "height" "[I", .fieldLink RX0 15 "FloodGrid$Plain" "water" "[I", .fieldLink RX0 18 "FloodGrid$Plain" "dam" "[I", .fieldLink RX0 21 "FloodGrid$Plain" "wear" "[I", .fieldLink RX0 24 "FloodGrid$Plain" "drain" "[I", .fieldLink RX0 27 "FloodGrid$Plain" "people" "[I", .methodLink RX0 105 yX0_levelOf, .instanceMethod yX0_levelOf, .selects RX0 yX0_levelOf yX0_levelOf, .initialized RX0, .code yX0_levelOf cX0_levelOf 2 (some .int), .methodLink RX0 94 yX0_crestOf, .instanceMethod yX0_crestOf, .selects RX0 yX0_crestOf yX0_crestOf, .code yX0_crestOf cX0_crestOf 2 (some .int), .methodLink RX0 114 Lib.Math.max.name, .static Lib.Math.max.name, .initialized "java/lang/Math", .code Lib.Math.max.name Lib.Math.max.code 2 (some .int)] ++ wsX00)
def wsX0_sum : List Cond := .code yX0_sum cX0_sum 7 (some .int) :: ([])
def wsX0_above0 : List Cond := .code yX0_above0 cX0_above0 7 (some .int) :: ([])
def wsX0_wetCells : List Cond := .code yX0_wetCells cX0_wetCells 1 (some .int) :: ([.fieldLink RX0 15 "FloodGrid$Plain" "water" "[I", .methodLink RX0 125 yX0_above0, .instanceMethod yX0_above0, .selects RX0 yX0_above0 yX0_above0, .initialized RX0, .code yX0_above0 cX0_above0 7 (some .int)] ++ wsX00)
def wsX0_meet : List Cond := .code yX0_meet cX0_meet 3 (some .int) :: ([.fieldLink RX0 39 "FloodGrid$Plain" "seen" "[I", .fieldLink RX0 15 "FloodGrid$Plain" "water" "[I", .fieldLink RX0 42 "FloodGrid$Plain" "found" "[I"] ++ wsX00)
def wsX0_spreadFrom : List Cond := .code yX0_spreadFrom cX0_spreadFrom 5 (some .int) :: ([.fieldLink RX0 42 "FloodGrid$Plain" "found" "[I", .methodLink RX0 134 yX0_meet, .instanceMethod yX0_meet, .selects RX0 yX0_meet yX0_meet, .initialized RX0, .code yX0_meet cX0_meet 3 (some .int), .fieldLink RX0 39 "FloodGrid$Plain" "seen" "[I", .fieldLink RX0 15 "FloodGrid$Plain" "water" "[I", .methodLink RX0 111 yX0_neighbourOf, .static yX0_neighbourOf, .code yX0_neighbourOf cX0_neighbourOf 4 (some .int)] ++ wsX00)
def wsX0_lakes : List Cond := .code yX0_lakes cX0_lakes 3 (some .int) :: ([.fieldLink RX0 39 "FloodGrid$Plain" "seen" "[I", .methodLink RX0 45 yJ7_fill_53178, .static yJ7_fill_53178, .initialized RJ7, .code yJ7_fill_53178 cJ7_fill_53178 4 none, .methodLink RX0 131 yX0_spreadFrom, .instanceMethod yX0_spreadFrom, .selects RX0 yX0_spreadFrom yX0_spreadFrom, .initialized RX0, .code yX0_spreadFrom cX0_spreadFrom 5 (some .int), .fieldLink RX0 42 "FloodGrid$Plain" "found" "[I", .methodLink RX0 134 yX0_meet, .instanceMethod yX0_meet, .selects RX0 yX0_meet yX0_meet, .code yX0_meet cX0_meet 3 (some .int), .fieldLink RX0 15 "FloodGrid$Plain" "water" "[I", .methodLink RX0 111 yX0_neighbourOf, .static yX0_neighbourOf, .code yX0_neighbourOf cX0_neighbourOf 4 (some .int)] ++ wsX00)
def wsX0_tally_r1 : List Cond := [Cond.fieldLink RX0 57 "FloodGrid$Plain" "hour" "I", Cond.fieldLink RX0 15 "FloodGrid$Plain" "water" "[I", Cond.fieldLink RX0 18 "FloodGrid$Plain" "dam" "[I", Cond.fieldLink RX0 61 "FloodGrid$Plain" "broken" "I", Cond.fieldLink RX0 64 "FloodGrid$Plain" "drained" "I", Cond.fieldLink RX0 27 "FloodGrid$Plain" "people" "[I", Cond.fieldLink RX0 67 "FloodGrid$Plain" "left" "I", Cond.methodLink RX0 117 yX0_sum, Cond.instanceMethod yX0_sum, Cond.selects RX0 yX0_sum yX0_sum, Cond.initialized RX0, Cond.code yX0_sum cX0_sum 7 (some .int), Cond.methodLink RX0 121 yX0_wetCells, Cond.instanceMethod yX0_wetCells, Cond.selects RX0 yX0_wetCells yX0_wetCells, Cond.code yX0_wetCells cX0_wetCells 1 (some .int), Cond.methodLink RX0 125 yX0_above0, Cond.instanceMethod yX0_above0, Cond.selects RX0 yX0_above0 yX0_above0, Cond.code yX0_above0 cX0_above0 7 (some .int), Cond.methodLink RX0 128 yX0_lakes, Cond.instanceMethod yX0_lakes, Cond.selects RX0 yX0_lakes yX0_lakes, Cond.code yX0_lakes cX0_lakes 3 (some .int)]
def wsX0_tally_r2 : List Cond := [Cond.fieldLink RX0 39 "FloodGrid$Plain" "seen" "[I", Cond.methodLink RX0 45 yJ7_fill_53178, Cond.static yJ7_fill_53178, Cond.initialized RJ7, Cond.code yJ7_fill_53178 cJ7_fill_53178 4 none, Cond.methodLink RX0 131 yX0_spreadFrom, Cond.instanceMethod yX0_spreadFrom, Cond.selects RX0 yX0_spreadFrom yX0_spreadFrom, Cond.code yX0_spreadFrom cX0_spreadFrom 5 (some .int), Cond.fieldLink RX0 42 "FloodGrid$Plain" "found" "[I", Cond.methodLink RX0 134 yX0_meet, Cond.instanceMethod yX0_meet, Cond.selects RX0 yX0_meet yX0_meet, Cond.code yX0_meet cX0_meet 3 (some .int), Cond.methodLink RX0 111 yX0_neighbourOf, Cond.static yX0_neighbourOf, Cond.code yX0_neighbourOf cX0_neighbourOf 4 (some .int)]
def wsX0_tally : List Cond := .code yX0_tally cX0_tally 2 (some .int) :: ((wsX0_tally_r1 ++ wsX0_tally_r2) ++ wsX00)
def wsX0_lakeSize : List Cond := .code yX0_lakeSize cX0_lakeSize 2 (some .int) :: ([.fieldLink RX0 39 "FloodGrid$Plain" "seen" "[I", .methodLink RX0 45 yJ7_fill_53178, .static yJ7_fill_53178, .initialized RJ7, .code yJ7_fill_53178 cJ7_fill_53178 4 none, .methodLink RX0 131 yX0_spreadFrom, .instanceMethod yX0_spreadFrom, .selects RX0 yX0_spreadFrom yX0_spreadFrom, .initialized RX0, .code yX0_spreadFrom cX0_spreadFrom 5 (some .int), .fieldLink RX0 42 "FloodGrid$Plain" "found" "[I", .methodLink RX0 134 yX0_meet, .instanceMethod yX0_meet, .selects RX0 yX0_meet yX0_meet, .code yX0_meet cX0_meet 3 (some .int), .fieldLink RX0 15 "FloodGrid$Plain" "water" "[I", .methodLink RX0 111 yX0_neighbourOf, .static yX0_neighbourOf, .code yX0_neighbourOf cX0_neighbourOf 4 (some .int)] ++ wsX00)
def wsX1_init_r1 : List Cond := [Cond.methodLink RX1 1 objectInit, Cond.instanceMethod objectInit, Cond.code objectInit ⟨#[0xb1]⟩ 1 none, Cond.classLink RX1 7 RX0, Cond.instantiable RX0 15, Cond.initialized RX0, Cond.fieldLink RX1 10 "FloodGrid" "now" "LFloodGrid$Plain;", Cond.fieldLink RX1 16 "FloodGrid" "ahead" "LFloodGrid$Plain;", Cond.methodLink RX1 9 yX0_init, Cond.instanceMethod yX0_init, Cond.code yX0_init cX0_init 1 none, Cond.methodLink RX0 3 objectInit, Cond.arrayClass .int, Cond.fieldLink RX0 9 "FloodGrid$Plain" "height" "[I", Cond.fieldLink RX0 15 "FloodGrid$Plain" "water" "[I", Cond.fieldLink RX0 18 "FloodGrid$Plain" "dam" "[I", Cond.fieldLink RX0 21 "FloodGrid$Plain" "wear" "[I", Cond.fieldLink RX0 24 "FloodGrid$Plain" "drain" "[I", Cond.fieldLink RX0 27 "FloodGrid$Plain" "people" "[I", Cond.fieldLink RX0 30 "FloodGrid$Plain" "rain" "[I", Cond.fieldLink RX0 33 "FloodGrid$Plain" "crests" "[I", Cond.fieldLink RX0 36 "FloodGrid$Plain" "gained" "[I", Cond.fieldLink RX0 39 "FloodGrid$Plain" "seen" "[I", Cond.fieldLink RX0 42 "FloodGrid$Plain" "found" "[I"]
def wsX1_init_r2 : List Cond := [Cond.methodLink RX0 45 yJ7_fill_53178, Cond.static yJ7_fill_53178, Cond.initialized RJ7, Cond.code yJ7_fill_53178 cJ7_fill_53178 4 none]
def wsX1_init : List Cond := .code yX1_init cX1_init 1 none :: ((wsX1_init_r1 ++ wsX1_init_r2) ++ wsX00 ++ wsX10)
def wsX1_requireIndex : List Cond := .code yX1_requireIndex cX1_requireIndex 3 none :: ([.classLink RX1 99 "java/lang/IndexOutOfBoundsException", .initialized "java/lang/IndexOutOfBoundsException"] ++ (vx_atS RX1 103 "java/lang/IndexOutOfBoundsException" ["java/lang/RuntimeException", "java/lang/Exception"]).filter goodWord)
def wsX1_placeOf : List Cond := .code yX1_placeOf cX1_placeOf 2 (some .int) :: ([.methodLink RX1 51 yX1_requireIndex, .static yX1_requireIndex, .initialized RX1, .code yX1_requireIndex cX1_requireIndex 3 none, .classLink RX1 99 "java/lang/IndexOutOfBoundsException", .initialized "java/lang/IndexOutOfBoundsException"] ++ (vx_atS RX1 103 "java/lang/IndexOutOfBoundsException" ["java/lang/RuntimeException", "java/lang/Exception"]).filter goodWord)
def wsX1_requireWithin : List Cond := .code yX1_requireWithin cX1_requireWithin 3 none :: ([.classLink RX1 106 "java/lang/IllegalArgumentException", .initialized "java/lang/IllegalArgumentException"] ++ (vx_atS RX1 110 "java/lang/IllegalArgumentException" ["java/lang/RuntimeException", "java/lang/Exception"]).filter goodWord)
def wsX1_raise : List Cond := .code yX1_raise cX1_raise 6 (some .int) :: ([.fieldLink RX1 10 "FloodGrid" "now" "LFloodGrid$Plain;", .fieldLink RX1 27 "FloodGrid$Plain" "height" "[I", .methodLink RX1 19 yX1_placeOf, .static yX1_placeOf, .initialized RX1, .code yX1_placeOf cX1_placeOf 2 (some .int), .methodLink RX1 51 yX1_requireIndex, .static yX1_requireIndex, .code yX1_requireIndex cX1_requireIndex 3 none, .classLink RX1 99 "java/lang/IndexOutOfBoundsException", .initialized "java/lang/IndexOutOfBoundsException", .methodLink RX1 23 yX1_requireWithin, .static yX1_requireWithin, .code yX1_requireWithin cX1_requireWithin 3 none, .classLink RX1 106 "java/lang/IllegalArgumentException", .initialized "java/lang/IllegalArgumentException"] ++ wsX10 ++ wsX00 ++ (vx_atS RX1 103 "java/lang/IndexOutOfBoundsException" ["java/lang/RuntimeException", "java/lang/Exception"]).filter goodWord ++ (vx_atS RX1 110 "java/lang/IllegalArgumentException" ["java/lang/RuntimeException", "java/lang/Exception"]).filter goodWord)
def wsX1_pour : List Cond := .code yX1_pour cX1_pour 5 (some .int) :: ([.fieldLink RX1 10 "FloodGrid" "now" "LFloodGrid$Plain;", .fieldLink RX1 31 "FloodGrid$Plain" "water" "[I", .methodLink RX1 34 Lib.Math.max.name, .static Lib.Math.max.name, .initialized "java/lang/Math", .code Lib.Math.max.name Lib.Math.max.code 2 (some .int), .methodLink RX1 19 yX1_placeOf, .static yX1_placeOf, .initialized RX1, .code yX1_placeOf cX1_placeOf 2 (some .int), .methodLink RX1 51 yX1_requireIndex, .static yX1_requireIndex, .code yX1_requireIndex cX1_requireIndex 3 none, .classLink RX1 99 "java/lang/IndexOutOfBoundsException", .initialized "java/lang/IndexOutOfBoundsException", .methodLink RX1 23 yX1_requireWithin, .static yX1_requireWithin, .code yX1_requireWithin cX1_requireWithin 3 none, .classLink RX1 106 "java/lang/IllegalArgumentException", .initialized "java/lang/IllegalArgumentException"] ++ wsX10 ++ wsX00 ++ (vx_atS RX1 103 "java/lang/IndexOutOfBoundsException" ["java/lang/RuntimeException", "java/lang/Exception"]).filter goodWord ++ (vx_atS RX1 110 "java/lang/IllegalArgumentException" ["java/lang/RuntimeException", "java/lang/Exception"]).filter goodWord)
def wsX1_dam : List Cond := .code yX1_dam cX1_dam 6 (some .int) :: ([.fieldLink RX1 10 "FloodGrid" "now" "LFloodGrid$Plain;", .fieldLink RX1 39 "FloodGrid$Plain" "dam" "[I", .fieldLink RX1 42 "FloodGrid$Plain" "wear" "[I", .methodLink RX1 19 yX1_placeOf, .static yX1_placeOf, .initialized RX1, .code yX1_placeOf cX1_placeOf 2 (some .int), .methodLink RX1 51 yX1_requireIndex, .static yX1_requireIndex, .code yX1_requireIndex cX1_requireIndex 3 none, .classLink RX1 99 "java/lang/IndexOutOfBoundsException", .initialized "java/lang/IndexOutOfBoundsException", .methodLink RX1 23 yX1_requireWithin, .static yX1_requireWithin, .code yX1_requireWithin cX1_requireWithin 3 none, .classLink RX1 106 "java/lang/IllegalArgumentException", .initialized "java/lang/IllegalArgumentException"] ++ wsX10 ++ wsX00 ++ (vx_atS RX1 103 "java/lang/IndexOutOfBoundsException" ["java/lang/RuntimeException", "java/lang/Exception"]).filter goodWord ++ (vx_atS RX1 110 "java/lang/IllegalArgumentException" ["java/lang/RuntimeException", "java/lang/Exception"]).filter goodWord)
def wsX1_drain : List Cond := .code yX1_drain cX1_drain 6 (some .int) :: ([.fieldLink RX1 10 "FloodGrid" "now" "LFloodGrid$Plain;", .fieldLink RX1 45 "FloodGrid$Plain" "drain" "[I", .methodLink RX1 19 yX1_placeOf, .static yX1_placeOf, .initialized RX1, .code yX1_placeOf cX1_placeOf 2 (some .int), .methodLink RX1 51 yX1_requireIndex, .static yX1_requireIndex, .code yX1_requireIndex cX1_requireIndex 3 none, .classLink RX1 99 "java/lang/IndexOutOfBoundsException", .initialized "java/lang/IndexOutOfBoundsException", .methodLink RX1 23 yX1_requireWithin, .static yX1_requireWithin, .code yX1_requireWithin cX1_requireWithin 3 none, .classLink RX1 106 "java/lang/IllegalArgumentException", .initialized "java/lang/IllegalArgumentException"] ++ wsX10 ++ wsX00 ++ (vx_atS RX1 103 "java/lang/IndexOutOfBoundsException" ["java/lang/RuntimeException", "java/lang/Exception"]).filter goodWord ++ (vx_atS RX1 110 "java/lang/IllegalArgumentException" ["java/lang/RuntimeException", "java/lang/Exception"]).filter goodWord)
def wsX1_settle : List Cond := .code yX1_settle cX1_settle 6 (some .int) :: ([.fieldLink RX1 10 "FloodGrid" "now" "LFloodGrid$Plain;", .fieldLink RX1 48 "FloodGrid$Plain" "people" "[I", .methodLink RX1 19 yX1_placeOf, .static yX1_placeOf, .initialized RX1, .code yX1_placeOf cX1_placeOf 2 (some .int), .methodLink RX1 51 yX1_requireIndex, .static yX1_requireIndex, .code yX1_requireIndex cX1_requireIndex 3 none, .classLink RX1 99 "java/lang/IndexOutOfBoundsException", .initialized "java/lang/IndexOutOfBoundsException", .methodLink RX1 23 yX1_requireWithin, .static yX1_requireWithin, .code yX1_requireWithin cX1_requireWithin 3 none, .classLink RX1 106 "java/lang/IllegalArgumentException", .initialized "java/lang/IllegalArgumentException"] ++ wsX10 ++ wsX00 ++ (vx_atS RX1 103 "java/lang/IndexOutOfBoundsException" ["java/lang/RuntimeException", "java/lang/Exception"]).filter goodWord ++ (vx_atS RX1 110 "java/lang/IllegalArgumentException" ["java/lang/RuntimeException", "java/lang/Exception"]).filter goodWord)
def wsX1_setRain : List Cond := .code yX1_setRain cX1_setRain 4 (some .int) :: ([.fieldLink RX1 10 "FloodGrid" "now" "LFloodGrid$Plain;", .fieldLink RX1 54 "FloodGrid$Plain" "rain" "[I", .methodLink RX1 51 yX1_requireIndex, .static yX1_requireIndex, .initialized RX1, .code yX1_requireIndex cX1_requireIndex 3 none, .classLink RX1 99 "java/lang/IndexOutOfBoundsException", .initialized "java/lang/IndexOutOfBoundsException", .methodLink RX1 23 yX1_requireWithin, .static yX1_requireWithin, .code yX1_requireWithin cX1_requireWithin 3 none, .classLink RX1 106 "java/lang/IllegalArgumentException", .initialized "java/lang/IllegalArgumentException"] ++ wsX10 ++ wsX00 ++ (vx_atS RX1 103 "java/lang/IndexOutOfBoundsException" ["java/lang/RuntimeException", "java/lang/Exception"]).filter goodWord ++ (vx_atS RX1 110 "java/lang/IllegalArgumentException" ["java/lang/RuntimeException", "java/lang/Exception"]).filter goodWord)
def wsX1_cell_r1 : List Cond := [Cond.fieldLink RX1 10 "FloodGrid" "now" "LFloodGrid$Plain;", Cond.methodLink RX1 19 yX1_placeOf, Cond.static yX1_placeOf, Cond.initialized RX1, Cond.code yX1_placeOf cX1_placeOf 2 (some .int), Cond.methodLink RX1 51 yX1_requireIndex, Cond.static yX1_requireIndex, Cond.code yX1_requireIndex cX1_requireIndex 3 none, Cond.classLink RX1 99 "java/lang/IndexOutOfBoundsException", Cond.initialized "java/lang/IndexOutOfBoundsException", Cond.methodLink RX1 57 yX0_cellNumber, Cond.instanceMethod yX0_cellNumber, Cond.selects RX0 yX0_cellNumber yX0_cellNumber, Cond.initialized RX0, Cond.code yX0_cellNumber cX0_cellNumber 3 (some .int), Cond.fieldLink RX0 9 "FloodGrid$Plain" "height" "[I", Cond.fieldLink RX0 15 "FloodGrid$Plain" "water" "[I", Cond.fieldLink RX0 18 "FloodGrid$Plain" "dam" "[I", Cond.fieldLink RX0 21 "FloodGrid$Plain" "wear" "[I", Cond.fieldLink RX0 24 "FloodGrid$Plain" "drain" "[I", Cond.fieldLink RX0 27 "FloodGrid$Plain" "people" "[I", Cond.methodLink RX0 105 yX0_levelOf, Cond.instanceMethod yX0_levelOf, Cond.selects RX0 yX0_levelOf yX0_levelOf]
def wsX1_cell_r2 : List Cond := [Cond.code yX0_levelOf cX0_levelOf 2 (some .int), Cond.methodLink RX0 94 yX0_crestOf, Cond.instanceMethod yX0_crestOf, Cond.selects RX0 yX0_crestOf yX0_crestOf, Cond.code yX0_crestOf cX0_crestOf 2 (some .int), Cond.methodLink RX0 114 Lib.Math.max.name, Cond.static Lib.Math.max.name, Cond.initialized "java/lang/Math", Cond.code Lib.Math.max.name Lib.Math.max.code 2 (some .int)]
def wsX1_cell : List Cond := .code yX1_cell cX1_cell 5 (some .int) :: ((wsX1_cell_r1 ++ wsX1_cell_r2) ++ wsX10 ++ wsX00 ++ (vx_atS RX1 103 "java/lang/IndexOutOfBoundsException" ["java/lang/RuntimeException", "java/lang/Exception"]).filter goodWord)
def wsX1_lake_r1 : List Cond := [Cond.fieldLink RX1 10 "FloodGrid" "now" "LFloodGrid$Plain;", Cond.methodLink RX1 19 yX1_placeOf, Cond.static yX1_placeOf, Cond.initialized RX1, Cond.code yX1_placeOf cX1_placeOf 2 (some .int), Cond.methodLink RX1 51 yX1_requireIndex, Cond.static yX1_requireIndex, Cond.code yX1_requireIndex cX1_requireIndex 3 none, Cond.classLink RX1 99 "java/lang/IndexOutOfBoundsException", Cond.initialized "java/lang/IndexOutOfBoundsException", Cond.methodLink RX1 60 yX0_lakeSize, Cond.instanceMethod yX0_lakeSize, Cond.selects RX0 yX0_lakeSize yX0_lakeSize, Cond.initialized RX0, Cond.code yX0_lakeSize cX0_lakeSize 2 (some .int), Cond.fieldLink RX0 39 "FloodGrid$Plain" "seen" "[I", Cond.methodLink RX0 45 yJ7_fill_53178, Cond.static yJ7_fill_53178, Cond.initialized RJ7, Cond.code yJ7_fill_53178 cJ7_fill_53178 4 none, Cond.methodLink RX0 131 yX0_spreadFrom, Cond.instanceMethod yX0_spreadFrom, Cond.selects RX0 yX0_spreadFrom yX0_spreadFrom, Cond.code yX0_spreadFrom cX0_spreadFrom 5 (some .int)]
def wsX1_lake_r2 : List Cond := [Cond.fieldLink RX0 42 "FloodGrid$Plain" "found" "[I", Cond.methodLink RX0 134 yX0_meet, Cond.instanceMethod yX0_meet, Cond.selects RX0 yX0_meet yX0_meet, Cond.code yX0_meet cX0_meet 3 (some .int), Cond.fieldLink RX0 15 "FloodGrid$Plain" "water" "[I", Cond.methodLink RX0 111 yX0_neighbourOf, Cond.static yX0_neighbourOf, Cond.code yX0_neighbourOf cX0_neighbourOf 4 (some .int)]
def wsX1_lake : List Cond := .code yX1_lake cX1_lake 3 (some .int) :: ((wsX1_lake_r1 ++ wsX1_lake_r2) ++ wsX10 ++ wsX00 ++ (vx_atS RX1 103 "java/lang/IndexOutOfBoundsException" ["java/lang/RuntimeException", "java/lang/Exception"]).filter goodWord)
def wsX1_count_r1 : List Cond := [Cond.fieldLink RX1 10 "FloodGrid" "now" "LFloodGrid$Plain;", Cond.methodLink RX1 51 yX1_requireIndex, Cond.static yX1_requireIndex, Cond.initialized RX1, Cond.code yX1_requireIndex cX1_requireIndex 3 none, Cond.classLink RX1 99 "java/lang/IndexOutOfBoundsException", Cond.initialized "java/lang/IndexOutOfBoundsException", Cond.methodLink RX1 64 yX0_tally, Cond.instanceMethod yX0_tally, Cond.selects RX0 yX0_tally yX0_tally, Cond.initialized RX0, Cond.code yX0_tally cX0_tally 2 (some .int), Cond.fieldLink RX0 57 "FloodGrid$Plain" "hour" "I", Cond.fieldLink RX0 15 "FloodGrid$Plain" "water" "[I", Cond.fieldLink RX0 18 "FloodGrid$Plain" "dam" "[I", Cond.fieldLink RX0 61 "FloodGrid$Plain" "broken" "I", Cond.fieldLink RX0 64 "FloodGrid$Plain" "drained" "I", Cond.fieldLink RX0 27 "FloodGrid$Plain" "people" "[I", Cond.fieldLink RX0 67 "FloodGrid$Plain" "left" "I", Cond.methodLink RX0 117 yX0_sum, Cond.instanceMethod yX0_sum, Cond.selects RX0 yX0_sum yX0_sum, Cond.code yX0_sum cX0_sum 7 (some .int), Cond.methodLink RX0 121 yX0_wetCells]
def wsX1_count_r2 : List Cond := [Cond.instanceMethod yX0_wetCells, Cond.selects RX0 yX0_wetCells yX0_wetCells, Cond.code yX0_wetCells cX0_wetCells 1 (some .int), Cond.methodLink RX0 125 yX0_above0, Cond.instanceMethod yX0_above0, Cond.selects RX0 yX0_above0 yX0_above0, Cond.code yX0_above0 cX0_above0 7 (some .int), Cond.methodLink RX0 128 yX0_lakes, Cond.instanceMethod yX0_lakes, Cond.selects RX0 yX0_lakes yX0_lakes, Cond.code yX0_lakes cX0_lakes 3 (some .int), Cond.fieldLink RX0 39 "FloodGrid$Plain" "seen" "[I", Cond.methodLink RX0 45 yJ7_fill_53178, Cond.static yJ7_fill_53178, Cond.initialized RJ7, Cond.code yJ7_fill_53178 cJ7_fill_53178 4 none, Cond.methodLink RX0 131 yX0_spreadFrom, Cond.instanceMethod yX0_spreadFrom, Cond.selects RX0 yX0_spreadFrom yX0_spreadFrom, Cond.code yX0_spreadFrom cX0_spreadFrom 5 (some .int), Cond.fieldLink RX0 42 "FloodGrid$Plain" "found" "[I", Cond.methodLink RX0 134 yX0_meet, Cond.instanceMethod yX0_meet, Cond.selects RX0 yX0_meet yX0_meet]
def wsX1_count_r3 : List Cond := [Cond.code yX0_meet cX0_meet 3 (some .int), Cond.methodLink RX0 111 yX0_neighbourOf, Cond.static yX0_neighbourOf, Cond.code yX0_neighbourOf cX0_neighbourOf 4 (some .int)]
def wsX1_count : List Cond := .code yX1_count cX1_count 2 (some .int) :: ((wsX1_count_r1 ++ (wsX1_count_r2 ++ wsX1_count_r3)) ++ wsX10 ++ wsX00 ++ (vx_atS RX1 103 "java/lang/IndexOutOfBoundsException" ["java/lang/RuntimeException", "java/lang/Exception"]).filter goodWord)
def wsX1_pass_r1 : List Cond := [Cond.fieldLink RX1 10 "FloodGrid" "now" "LFloodGrid$Plain;", Cond.methodLink RX1 23 yX1_requireWithin, Cond.static yX1_requireWithin, Cond.initialized RX1, Cond.code yX1_requireWithin cX1_requireWithin 3 none, Cond.classLink RX1 106 "java/lang/IllegalArgumentException", Cond.initialized "java/lang/IllegalArgumentException", Cond.methodLink RX1 67 yX0_goHours, Cond.instanceMethod yX0_goHours, Cond.selects RX0 yX0_goHours yX0_goHours, Cond.initialized RX0, Cond.code yX0_goHours cX0_goHours 4 (some .int), Cond.fieldLink RX0 67 "FloodGrid$Plain" "left" "I", Cond.methodLink RX0 70 yX0_goOneHour, Cond.instanceMethod yX0_goOneHour, Cond.selects RX0 yX0_goOneHour yX0_goOneHour, Cond.code yX0_goOneHour cX0_goOneHour 1 none, Cond.fieldLink RX0 57 "FloodGrid$Plain" "hour" "I", Cond.methodLink RX0 73 yX0_letRainFall, Cond.instanceMethod yX0_letRainFall, Cond.selects RX0 yX0_letRainFall yX0_letRainFall, Cond.code yX0_letRainFall cX0_letRainFall 3 none, Cond.fieldLink RX0 30 "FloodGrid$Plain" "rain" "[I", Cond.fieldLink RX0 15 "FloodGrid$Plain" "water" "[I"]
def wsX1_pass_r2 : List Cond := [Cond.methodLink RX0 88 yJ9_floorMod_7cf53, Cond.static yJ9_floorMod_7cf53, Cond.initialized RJ9, Cond.code yJ9_floorMod_7cf53 cJ9_floorMod_7cf53 3 (some .int), Cond.methodLink RX0 76 yX0_letWaterRun, Cond.instanceMethod yX0_letWaterRun, Cond.selects RX0 yX0_letWaterRun yX0_letWaterRun, Cond.code yX0_letWaterRun cX0_letWaterRun 2 none, Cond.fieldLink RX0 33 "FloodGrid$Plain" "crests" "[I", Cond.fieldLink RX0 36 "FloodGrid$Plain" "gained" "[I", Cond.fieldLink RX0 18 "FloodGrid$Plain" "dam" "[I", Cond.methodLink RX0 94 yX0_crestOf, Cond.instanceMethod yX0_crestOf, Cond.selects RX0 yX0_crestOf yX0_crestOf, Cond.code yX0_crestOf cX0_crestOf 2 (some .int), Cond.fieldLink RX0 9 "FloodGrid$Plain" "height" "[I", Cond.methodLink RX0 114 Lib.Math.max.name, Cond.static Lib.Math.max.name, Cond.initialized "java/lang/Math", Cond.code Lib.Math.max.name Lib.Math.max.code 2 (some .int), Cond.methodLink RX0 45 yJ7_fill_53178, Cond.static yJ7_fill_53178, Cond.initialized RJ7, Cond.code yJ7_fill_53178 cJ7_fill_53178 4 none]
def wsX1_pass_r3 : List Cond := [Cond.methodLink RX0 98 yX0_lowestNeighbour, Cond.instanceMethod yX0_lowestNeighbour, Cond.selects RX0 yX0_lowestNeighbour yX0_lowestNeighbour, Cond.code yX0_lowestNeighbour cX0_lowestNeighbour 5 (some .int), Cond.methodLink RX0 111 yX0_neighbourOf, Cond.static yX0_neighbourOf, Cond.code yX0_neighbourOf cX0_neighbourOf 4 (some .int), Cond.methodLink RX0 101 yX0_give, Cond.instanceMethod yX0_give, Cond.selects RX0 yX0_give yX0_give, Cond.code yX0_give cX0_give 5 none, Cond.methodLink RX0 108 Lib.Math.min.name, Cond.static Lib.Math.min.name, Cond.code Lib.Math.min.name Lib.Math.min.code 2 (some .int), Cond.methodLink RX0 105 yX0_levelOf, Cond.instanceMethod yX0_levelOf, Cond.selects RX0 yX0_levelOf yX0_levelOf, Cond.code yX0_levelOf cX0_levelOf 2 (some .int), Cond.methodLink RX0 79 yX0_wearDams, Cond.instanceMethod yX0_wearDams, Cond.selects RX0 yX0_wearDams yX0_wearDams, Cond.code yX0_wearDams cX0_wearDams 2 none, Cond.fieldLink RX0 21 "FloodGrid$Plain" "wear" "[I", Cond.fieldLink RX0 61 "FloodGrid$Plain" "broken" "I"]
def wsX1_pass_r4 : List Cond := [Cond.methodLink RX0 82 yX0_drainCells, Cond.instanceMethod yX0_drainCells, Cond.selects RX0 yX0_drainCells yX0_drainCells, Cond.code yX0_drainCells cX0_drainCells 3 none, Cond.fieldLink RX0 24 "FloodGrid$Plain" "drain" "[I", Cond.fieldLink RX0 64 "FloodGrid$Plain" "drained" "I", Cond.methodLink RX0 85 yX0_leaveTowns, Cond.instanceMethod yX0_leaveTowns, Cond.selects RX0 yX0_leaveTowns yX0_leaveTowns, Cond.code yX0_leaveTowns cX0_leaveTowns 3 none, Cond.fieldLink RX0 27 "FloodGrid$Plain" "people" "[I"]
def wsX1_pass : List Cond := .code yX1_pass cX1_pass 2 (some .int) :: ((wsX1_pass_r1 ++ (wsX1_pass_r2 ++ (wsX1_pass_r3 ++ wsX1_pass_r4))) ++ wsX10 ++ wsX00 ++ (vx_atS RX1 110 "java/lang/IllegalArgumentException" ["java/lang/RuntimeException", "java/lang/Exception"]).filter goodWord)
def wsX1_floods_r1 : List Cond := [Cond.fieldLink RX1 16 "FloodGrid" "ahead" "LFloodGrid$Plain;", Cond.fieldLink RX1 10 "FloodGrid" "now" "LFloodGrid$Plain;", Cond.fieldLink RX1 31 "FloodGrid$Plain" "water" "[I", Cond.methodLink RX1 19 yX1_placeOf, Cond.static yX1_placeOf, Cond.initialized RX1, Cond.code yX1_placeOf cX1_placeOf 2 (some .int), Cond.methodLink RX1 51 yX1_requireIndex, Cond.static yX1_requireIndex, Cond.code yX1_requireIndex cX1_requireIndex 3 none, Cond.classLink RX1 99 "java/lang/IndexOutOfBoundsException", Cond.initialized "java/lang/IndexOutOfBoundsException", Cond.methodLink RX1 70 yX0_becomeLike, Cond.instanceMethod yX0_becomeLike, Cond.selects RX0 yX0_becomeLike yX0_becomeLike, Cond.initialized RX0, Cond.code yX0_becomeLike cX0_becomeLike 2 none, Cond.fieldLink RX0 9 "FloodGrid$Plain" "height" "[I", Cond.methodLink RX0 51 arraycopyName, Cond.native arraycopyName, Cond.static arraycopyName, Cond.initialized "java/lang/System", Cond.fieldLink RX0 15 "FloodGrid$Plain" "water" "[I", Cond.fieldLink RX0 18 "FloodGrid$Plain" "dam" "[I"]
def wsX1_floods_r2 : List Cond := [Cond.fieldLink RX0 21 "FloodGrid$Plain" "wear" "[I", Cond.fieldLink RX0 24 "FloodGrid$Plain" "drain" "[I", Cond.fieldLink RX0 27 "FloodGrid$Plain" "people" "[I", Cond.fieldLink RX0 30 "FloodGrid$Plain" "rain" "[I", Cond.fieldLink RX0 57 "FloodGrid$Plain" "hour" "I", Cond.fieldLink RX0 61 "FloodGrid$Plain" "broken" "I", Cond.fieldLink RX0 64 "FloodGrid$Plain" "drained" "I", Cond.fieldLink RX0 67 "FloodGrid$Plain" "left" "I", Cond.methodLink RX1 74 yX0_goOneHour, Cond.instanceMethod yX0_goOneHour, Cond.selects RX0 yX0_goOneHour yX0_goOneHour, Cond.code yX0_goOneHour cX0_goOneHour 1 none, Cond.methodLink RX0 73 yX0_letRainFall, Cond.instanceMethod yX0_letRainFall, Cond.selects RX0 yX0_letRainFall yX0_letRainFall, Cond.code yX0_letRainFall cX0_letRainFall 3 none, Cond.methodLink RX0 88 yJ9_floorMod_7cf53, Cond.static yJ9_floorMod_7cf53, Cond.initialized RJ9, Cond.code yJ9_floorMod_7cf53 cJ9_floorMod_7cf53 3 (some .int), Cond.methodLink RX0 76 yX0_letWaterRun, Cond.instanceMethod yX0_letWaterRun, Cond.selects RX0 yX0_letWaterRun yX0_letWaterRun, Cond.code yX0_letWaterRun cX0_letWaterRun 2 none]
def wsX1_floods_r3 : List Cond := [Cond.fieldLink RX0 33 "FloodGrid$Plain" "crests" "[I", Cond.fieldLink RX0 36 "FloodGrid$Plain" "gained" "[I", Cond.methodLink RX0 94 yX0_crestOf, Cond.instanceMethod yX0_crestOf, Cond.selects RX0 yX0_crestOf yX0_crestOf, Cond.code yX0_crestOf cX0_crestOf 2 (some .int), Cond.methodLink RX0 114 Lib.Math.max.name, Cond.static Lib.Math.max.name, Cond.initialized "java/lang/Math", Cond.code Lib.Math.max.name Lib.Math.max.code 2 (some .int), Cond.methodLink RX0 45 yJ7_fill_53178, Cond.static yJ7_fill_53178, Cond.initialized RJ7, Cond.code yJ7_fill_53178 cJ7_fill_53178 4 none, Cond.methodLink RX0 98 yX0_lowestNeighbour, Cond.instanceMethod yX0_lowestNeighbour, Cond.selects RX0 yX0_lowestNeighbour yX0_lowestNeighbour, Cond.code yX0_lowestNeighbour cX0_lowestNeighbour 5 (some .int), Cond.methodLink RX0 111 yX0_neighbourOf, Cond.static yX0_neighbourOf, Cond.code yX0_neighbourOf cX0_neighbourOf 4 (some .int), Cond.methodLink RX0 101 yX0_give, Cond.instanceMethod yX0_give, Cond.selects RX0 yX0_give yX0_give]
def wsX1_floods_r4 : List Cond := [Cond.code yX0_give cX0_give 5 none, Cond.methodLink RX0 108 Lib.Math.min.name, Cond.static Lib.Math.min.name, Cond.code Lib.Math.min.name Lib.Math.min.code 2 (some .int), Cond.methodLink RX0 105 yX0_levelOf, Cond.instanceMethod yX0_levelOf, Cond.selects RX0 yX0_levelOf yX0_levelOf, Cond.code yX0_levelOf cX0_levelOf 2 (some .int), Cond.methodLink RX0 79 yX0_wearDams, Cond.instanceMethod yX0_wearDams, Cond.selects RX0 yX0_wearDams yX0_wearDams, Cond.code yX0_wearDams cX0_wearDams 2 none, Cond.methodLink RX0 82 yX0_drainCells, Cond.instanceMethod yX0_drainCells, Cond.selects RX0 yX0_drainCells yX0_drainCells, Cond.code yX0_drainCells cX0_drainCells 3 none, Cond.methodLink RX0 85 yX0_leaveTowns, Cond.instanceMethod yX0_leaveTowns, Cond.selects RX0 yX0_leaveTowns yX0_leaveTowns, Cond.code yX0_leaveTowns cX0_leaveTowns 3 none]
def wsX1_floods : List Cond := .code yX1_floods cX1_floods 5 (some .int) :: ((wsX1_floods_r1 ++ (wsX1_floods_r2 ++ (wsX1_floods_r3 ++ wsX1_floods_r4))) ++ wsX10 ++ wsX00 ++ (vx_atS RX1 103 "java/lang/IndexOutOfBoundsException" ["java/lang/RuntimeException", "java/lang/Exception"]).filter goodWord)
def wsX1_breaks_r1 : List Cond := [Cond.fieldLink RX1 10 "FloodGrid" "now" "LFloodGrid$Plain;", Cond.fieldLink RX1 39 "FloodGrid$Plain" "dam" "[I", Cond.fieldLink RX1 16 "FloodGrid" "ahead" "LFloodGrid$Plain;", Cond.methodLink RX1 19 yX1_placeOf, Cond.static yX1_placeOf, Cond.initialized RX1, Cond.code yX1_placeOf cX1_placeOf 2 (some .int), Cond.methodLink RX1 51 yX1_requireIndex, Cond.static yX1_requireIndex, Cond.code yX1_requireIndex cX1_requireIndex 3 none, Cond.classLink RX1 99 "java/lang/IndexOutOfBoundsException", Cond.initialized "java/lang/IndexOutOfBoundsException", Cond.methodLink RX1 70 yX0_becomeLike, Cond.instanceMethod yX0_becomeLike, Cond.selects RX0 yX0_becomeLike yX0_becomeLike, Cond.initialized RX0, Cond.code yX0_becomeLike cX0_becomeLike 2 none, Cond.fieldLink RX0 9 "FloodGrid$Plain" "height" "[I", Cond.methodLink RX0 51 arraycopyName, Cond.native arraycopyName, Cond.static arraycopyName, Cond.initialized "java/lang/System", Cond.fieldLink RX0 15 "FloodGrid$Plain" "water" "[I", Cond.fieldLink RX0 18 "FloodGrid$Plain" "dam" "[I"]
def wsX1_breaks_r2 : List Cond := [Cond.fieldLink RX0 21 "FloodGrid$Plain" "wear" "[I", Cond.fieldLink RX0 24 "FloodGrid$Plain" "drain" "[I", Cond.fieldLink RX0 27 "FloodGrid$Plain" "people" "[I", Cond.fieldLink RX0 30 "FloodGrid$Plain" "rain" "[I", Cond.fieldLink RX0 57 "FloodGrid$Plain" "hour" "I", Cond.fieldLink RX0 61 "FloodGrid$Plain" "broken" "I", Cond.fieldLink RX0 64 "FloodGrid$Plain" "drained" "I", Cond.fieldLink RX0 67 "FloodGrid$Plain" "left" "I", Cond.methodLink RX1 74 yX0_goOneHour, Cond.instanceMethod yX0_goOneHour, Cond.selects RX0 yX0_goOneHour yX0_goOneHour, Cond.code yX0_goOneHour cX0_goOneHour 1 none, Cond.methodLink RX0 73 yX0_letRainFall, Cond.instanceMethod yX0_letRainFall, Cond.selects RX0 yX0_letRainFall yX0_letRainFall, Cond.code yX0_letRainFall cX0_letRainFall 3 none, Cond.methodLink RX0 88 yJ9_floorMod_7cf53, Cond.static yJ9_floorMod_7cf53, Cond.initialized RJ9, Cond.code yJ9_floorMod_7cf53 cJ9_floorMod_7cf53 3 (some .int), Cond.methodLink RX0 76 yX0_letWaterRun, Cond.instanceMethod yX0_letWaterRun, Cond.selects RX0 yX0_letWaterRun yX0_letWaterRun, Cond.code yX0_letWaterRun cX0_letWaterRun 2 none]
def wsX1_breaks_r3 : List Cond := [Cond.fieldLink RX0 33 "FloodGrid$Plain" "crests" "[I", Cond.fieldLink RX0 36 "FloodGrid$Plain" "gained" "[I", Cond.methodLink RX0 94 yX0_crestOf, Cond.instanceMethod yX0_crestOf, Cond.selects RX0 yX0_crestOf yX0_crestOf, Cond.code yX0_crestOf cX0_crestOf 2 (some .int), Cond.methodLink RX0 114 Lib.Math.max.name, Cond.static Lib.Math.max.name, Cond.initialized "java/lang/Math", Cond.code Lib.Math.max.name Lib.Math.max.code 2 (some .int), Cond.methodLink RX0 45 yJ7_fill_53178, Cond.static yJ7_fill_53178, Cond.initialized RJ7, Cond.code yJ7_fill_53178 cJ7_fill_53178 4 none, Cond.methodLink RX0 98 yX0_lowestNeighbour, Cond.instanceMethod yX0_lowestNeighbour, Cond.selects RX0 yX0_lowestNeighbour yX0_lowestNeighbour, Cond.code yX0_lowestNeighbour cX0_lowestNeighbour 5 (some .int), Cond.methodLink RX0 111 yX0_neighbourOf, Cond.static yX0_neighbourOf, Cond.code yX0_neighbourOf cX0_neighbourOf 4 (some .int), Cond.methodLink RX0 101 yX0_give, Cond.instanceMethod yX0_give, Cond.selects RX0 yX0_give yX0_give]
def wsX1_breaks_r4 : List Cond := [Cond.code yX0_give cX0_give 5 none, Cond.methodLink RX0 108 Lib.Math.min.name, Cond.static Lib.Math.min.name, Cond.code Lib.Math.min.name Lib.Math.min.code 2 (some .int), Cond.methodLink RX0 105 yX0_levelOf, Cond.instanceMethod yX0_levelOf, Cond.selects RX0 yX0_levelOf yX0_levelOf, Cond.code yX0_levelOf cX0_levelOf 2 (some .int), Cond.methodLink RX0 79 yX0_wearDams, Cond.instanceMethod yX0_wearDams, Cond.selects RX0 yX0_wearDams yX0_wearDams, Cond.code yX0_wearDams cX0_wearDams 2 none, Cond.methodLink RX0 82 yX0_drainCells, Cond.instanceMethod yX0_drainCells, Cond.selects RX0 yX0_drainCells yX0_drainCells, Cond.code yX0_drainCells cX0_drainCells 3 none, Cond.methodLink RX0 85 yX0_leaveTowns, Cond.instanceMethod yX0_leaveTowns, Cond.selects RX0 yX0_leaveTowns yX0_leaveTowns, Cond.code yX0_leaveTowns cX0_leaveTowns 3 none]
def wsX1_breaks : List Cond := .code yX1_breaks cX1_breaks 5 (some .int) :: ((wsX1_breaks_r1 ++ (wsX1_breaks_r2 ++ (wsX1_breaks_r3 ++ wsX1_breaks_r4))) ++ wsX10 ++ wsX00 ++ (vx_atS RX1 103 "java/lang/IndexOutOfBoundsException" ["java/lang/RuntimeException", "java/lang/Exception"]).filter goodWord)
def wsX1_foresee_r1 : List Cond := [Cond.fieldLink RX1 16 "FloodGrid" "ahead" "LFloodGrid$Plain;", Cond.fieldLink RX1 10 "FloodGrid" "now" "LFloodGrid$Plain;", Cond.methodLink RX1 23 yX1_requireWithin, Cond.static yX1_requireWithin, Cond.initialized RX1, Cond.code yX1_requireWithin cX1_requireWithin 3 none, Cond.classLink RX1 106 "java/lang/IllegalArgumentException", Cond.initialized "java/lang/IllegalArgumentException", Cond.methodLink RX1 51 yX1_requireIndex, Cond.static yX1_requireIndex, Cond.code yX1_requireIndex cX1_requireIndex 3 none, Cond.classLink RX1 99 "java/lang/IndexOutOfBoundsException", Cond.initialized "java/lang/IndexOutOfBoundsException", Cond.methodLink RX1 70 yX0_becomeLike, Cond.instanceMethod yX0_becomeLike, Cond.selects RX0 yX0_becomeLike yX0_becomeLike, Cond.initialized RX0, Cond.code yX0_becomeLike cX0_becomeLike 2 none, Cond.fieldLink RX0 9 "FloodGrid$Plain" "height" "[I", Cond.methodLink RX0 51 arraycopyName, Cond.native arraycopyName, Cond.static arraycopyName, Cond.initialized "java/lang/System", Cond.fieldLink RX0 15 "FloodGrid$Plain" "water" "[I"]
def wsX1_foresee_r2 : List Cond := [Cond.fieldLink RX0 18 "FloodGrid$Plain" "dam" "[I", Cond.fieldLink RX0 21 "FloodGrid$Plain" "wear" "[I", Cond.fieldLink RX0 24 "FloodGrid$Plain" "drain" "[I", Cond.fieldLink RX0 27 "FloodGrid$Plain" "people" "[I", Cond.fieldLink RX0 30 "FloodGrid$Plain" "rain" "[I", Cond.fieldLink RX0 57 "FloodGrid$Plain" "hour" "I", Cond.fieldLink RX0 61 "FloodGrid$Plain" "broken" "I", Cond.fieldLink RX0 64 "FloodGrid$Plain" "drained" "I", Cond.fieldLink RX0 67 "FloodGrid$Plain" "left" "I", Cond.methodLink RX1 67 yX0_goHours, Cond.instanceMethod yX0_goHours, Cond.selects RX0 yX0_goHours yX0_goHours, Cond.code yX0_goHours cX0_goHours 4 (some .int), Cond.methodLink RX0 70 yX0_goOneHour, Cond.instanceMethod yX0_goOneHour, Cond.selects RX0 yX0_goOneHour yX0_goOneHour, Cond.code yX0_goOneHour cX0_goOneHour 1 none, Cond.methodLink RX0 73 yX0_letRainFall, Cond.instanceMethod yX0_letRainFall, Cond.selects RX0 yX0_letRainFall yX0_letRainFall, Cond.code yX0_letRainFall cX0_letRainFall 3 none, Cond.methodLink RX0 88 yJ9_floorMod_7cf53, Cond.static yJ9_floorMod_7cf53, Cond.initialized RJ9]
def wsX1_foresee_r3 : List Cond := [Cond.code yJ9_floorMod_7cf53 cJ9_floorMod_7cf53 3 (some .int), Cond.methodLink RX0 76 yX0_letWaterRun, Cond.instanceMethod yX0_letWaterRun, Cond.selects RX0 yX0_letWaterRun yX0_letWaterRun, Cond.code yX0_letWaterRun cX0_letWaterRun 2 none, Cond.fieldLink RX0 33 "FloodGrid$Plain" "crests" "[I", Cond.fieldLink RX0 36 "FloodGrid$Plain" "gained" "[I", Cond.methodLink RX0 94 yX0_crestOf, Cond.instanceMethod yX0_crestOf, Cond.selects RX0 yX0_crestOf yX0_crestOf, Cond.code yX0_crestOf cX0_crestOf 2 (some .int), Cond.methodLink RX0 114 Lib.Math.max.name, Cond.static Lib.Math.max.name, Cond.initialized "java/lang/Math", Cond.code Lib.Math.max.name Lib.Math.max.code 2 (some .int), Cond.methodLink RX0 45 yJ7_fill_53178, Cond.static yJ7_fill_53178, Cond.initialized RJ7, Cond.code yJ7_fill_53178 cJ7_fill_53178 4 none, Cond.methodLink RX0 98 yX0_lowestNeighbour, Cond.instanceMethod yX0_lowestNeighbour, Cond.selects RX0 yX0_lowestNeighbour yX0_lowestNeighbour, Cond.code yX0_lowestNeighbour cX0_lowestNeighbour 5 (some .int), Cond.methodLink RX0 111 yX0_neighbourOf]
def wsX1_foresee_r4 : List Cond := [Cond.static yX0_neighbourOf, Cond.code yX0_neighbourOf cX0_neighbourOf 4 (some .int), Cond.methodLink RX0 101 yX0_give, Cond.instanceMethod yX0_give, Cond.selects RX0 yX0_give yX0_give, Cond.code yX0_give cX0_give 5 none, Cond.methodLink RX0 108 Lib.Math.min.name, Cond.static Lib.Math.min.name, Cond.code Lib.Math.min.name Lib.Math.min.code 2 (some .int), Cond.methodLink RX0 105 yX0_levelOf, Cond.instanceMethod yX0_levelOf, Cond.selects RX0 yX0_levelOf yX0_levelOf, Cond.code yX0_levelOf cX0_levelOf 2 (some .int), Cond.methodLink RX0 79 yX0_wearDams, Cond.instanceMethod yX0_wearDams, Cond.selects RX0 yX0_wearDams yX0_wearDams, Cond.code yX0_wearDams cX0_wearDams 2 none, Cond.methodLink RX0 82 yX0_drainCells, Cond.instanceMethod yX0_drainCells, Cond.selects RX0 yX0_drainCells yX0_drainCells, Cond.code yX0_drainCells cX0_drainCells 3 none, Cond.methodLink RX0 85 yX0_leaveTowns, Cond.instanceMethod yX0_leaveTowns, Cond.selects RX0 yX0_leaveTowns yX0_leaveTowns]
def wsX1_foresee_r5 : List Cond := [Cond.code yX0_leaveTowns cX0_leaveTowns 3 none, Cond.methodLink RX1 64 yX0_tally, Cond.instanceMethod yX0_tally, Cond.selects RX0 yX0_tally yX0_tally, Cond.code yX0_tally cX0_tally 2 (some .int), Cond.methodLink RX0 117 yX0_sum, Cond.instanceMethod yX0_sum, Cond.selects RX0 yX0_sum yX0_sum, Cond.code yX0_sum cX0_sum 7 (some .int), Cond.methodLink RX0 121 yX0_wetCells, Cond.instanceMethod yX0_wetCells, Cond.selects RX0 yX0_wetCells yX0_wetCells, Cond.code yX0_wetCells cX0_wetCells 1 (some .int), Cond.methodLink RX0 125 yX0_above0, Cond.instanceMethod yX0_above0, Cond.selects RX0 yX0_above0 yX0_above0, Cond.code yX0_above0 cX0_above0 7 (some .int), Cond.methodLink RX0 128 yX0_lakes, Cond.instanceMethod yX0_lakes, Cond.selects RX0 yX0_lakes yX0_lakes, Cond.code yX0_lakes cX0_lakes 3 (some .int), Cond.fieldLink RX0 39 "FloodGrid$Plain" "seen" "[I", Cond.methodLink RX0 131 yX0_spreadFrom, Cond.instanceMethod yX0_spreadFrom]
def wsX1_foresee_r6 : List Cond := [Cond.selects RX0 yX0_spreadFrom yX0_spreadFrom, Cond.code yX0_spreadFrom cX0_spreadFrom 5 (some .int), Cond.fieldLink RX0 42 "FloodGrid$Plain" "found" "[I", Cond.methodLink RX0 134 yX0_meet, Cond.instanceMethod yX0_meet, Cond.selects RX0 yX0_meet yX0_meet, Cond.code yX0_meet cX0_meet 3 (some .int)]
def wsX1_foresee : List Cond := .code yX1_foresee cX1_foresee 3 (some .int) :: ((wsX1_foresee_r1 ++ (wsX1_foresee_r2 ++ (wsX1_foresee_r3 ++ (wsX1_foresee_r4 ++ (wsX1_foresee_r5 ++ wsX1_foresee_r6))))) ++ wsX10 ++ wsX00 ++ (vx_atS RX1 110 "java/lang/IllegalArgumentException" ["java/lang/RuntimeException", "java/lang/Exception"]).filter goodWord ++ (vx_atS RX1 103 "java/lang/IndexOutOfBoundsException" ["java/lang/RuntimeException", "java/lang/Exception"]).filter goodWord)
def wsX1_mean : List Cond := .code yX1_mean cX1_mean 2 (some .double) :: ([.fieldLink RX1 10 "FloodGrid" "now" "LFloodGrid$Plain;", .fieldLink RX1 31 "FloodGrid$Plain" "water" "[I", .methodLink RX1 87 yX0_wetCells, .instanceMethod yX0_wetCells, .selects RX0 yX0_wetCells yX0_wetCells, .initialized RX0, .code yX0_wetCells cX0_wetCells 1 (some .int), .fieldLink RX0 15 "FloodGrid$Plain" "water" "[I", .methodLink RX0 125 yX0_above0, .instanceMethod yX0_above0, .selects RX0 yX0_above0 yX0_above0, .code yX0_above0 cX0_above0 7 (some .int), .methodLink RX1 91 yX0_sum, .instanceMethod yX0_sum, .selects RX0 yX0_sum yX0_sum, .code yX0_sum cX0_sum 7 (some .int)] ++ wsX10 ++ wsX00)
def wsX2_init : List Cond := .code yX2_init cX2_init 6 none :: ([.methodLink RX2 1 objectInit, .instanceMethod objectInit, .code objectInit ⟨#[0xb1]⟩ 1 none, .classLink RX2 7 "[[I", .arrayClass .int, .fieldLink RX2 9 "FloodGridLaw$Sim" "height" "[[I", .fieldLink RX2 14 "FloodGridLaw$Sim" "water" "[[I", .fieldLink RX2 17 "FloodGridLaw$Sim" "dam" "[[I", .fieldLink RX2 20 "FloodGridLaw$Sim" "wear" "[[I", .fieldLink RX2 23 "FloodGridLaw$Sim" "drain" "[[I", .fieldLink RX2 26 "FloodGridLaw$Sim" "town" "[[I", .fieldLink RX2 29 "FloodGridLaw$Sim" "rain" "[I"] ++ wsX20)
def wsX2_crest : List Cond := .code yX2_crest cX2_crest 3 (some .int) :: ([.fieldLink RX2 14 "FloodGridLaw$Sim" "water" "[[I", .fieldLink RX2 17 "FloodGridLaw$Sim" "dam" "[[I", .fieldLink RX2 9 "FloodGridLaw$Sim" "height" "[[I"] ++ wsX20)
def wsX2_pass : List Cond := .code yX2_pass cX2_pass 12 (some .int) :: ([.fieldLink RX2 47 "FloodGridLaw$Sim" "left" "I", .classLink RX2 7 "[[I", .arrayClass .int, .fieldLink RX2 14 "FloodGridLaw$Sim" "water" "[[I", .fieldLink RX2 29 "FloodGridLaw$Sim" "rain" "[I", .fieldLink RX2 37 "FloodGridLaw$Sim" "hour" "I", .fieldLink RX2 17 "FloodGridLaw$Sim" "dam" "[[I", .constant RX2 50 (100000), .fieldLink RX2 9 "FloodGridLaw$Sim" "height" "[[I", .fieldLink RX2 20 "FloodGridLaw$Sim" "wear" "[[I", .fieldLink RX2 41 "FloodGridLaw$Sim" "broke" "I", .fieldLink RX2 23 "FloodGridLaw$Sim" "drain" "[[I", .fieldLink RX2 44 "FloodGridLaw$Sim" "drained" "I", .fieldLink RX2 26 "FloodGridLaw$Sim" "town" "[[I", .methodLink RX2 51 yX2_crest, .instanceMethod yX2_crest, .selects RX2 yX2_crest yX2_crest, .initialized RX2, .code yX2_crest cX2_crest 3 (some .int)] ++ wsX20)
def wsX2_spread : List Cond := .code yX2_spread cX2_spread 4 (some .int) :: ([.fieldLink RX2 14 "FloodGridLaw$Sim" "water" "[[I", .methodLink RX2 55 yX2_spread, .instanceMethod yX2_spread, .selects RX2 yX2_spread yX2_spread, .initialized RX2] ++ wsX20)
def wsX2_told : List Cond := .code yX2_told cX2_told 6 (some .int) :: ([.classLink RX2 59 "[[Z", .arrayClass .boolean, .fieldLink RX2 14 "FloodGridLaw$Sim" "water" "[[I", .fieldLink RX2 17 "FloodGridLaw$Sim" "dam" "[[I", .fieldLink RX2 26 "FloodGridLaw$Sim" "town" "[[I", .fieldLink RX2 37 "FloodGridLaw$Sim" "hour" "I", .fieldLink RX2 41 "FloodGridLaw$Sim" "broke" "I", .fieldLink RX2 44 "FloodGridLaw$Sim" "drained" "I", .fieldLink RX2 47 "FloodGridLaw$Sim" "left" "I", .methodLink RX2 55 yX2_spread, .instanceMethod yX2_spread, .selects RX2 yX2_spread yX2_spread, .initialized RX2, .code yX2_spread cX2_spread 4 (some .int)] ++ wsX20)
def wsX2_isSame_r1 : List Cond := [Cond.arrayClass .int, Cond.fieldLink RX2 9 "FloodGridLaw$Sim" "height" "[[I", Cond.fieldLink RX2 14 "FloodGridLaw$Sim" "water" "[[I", Cond.fieldLink RX2 17 "FloodGridLaw$Sim" "dam" "[[I", Cond.fieldLink RX2 20 "FloodGridLaw$Sim" "wear" "[[I", Cond.fieldLink RX2 23 "FloodGridLaw$Sim" "drain" "[[I", Cond.fieldLink RX2 26 "FloodGridLaw$Sim" "town" "[[I", Cond.methodLink RX2 51 yX2_crest, Cond.instanceMethod yX2_crest, Cond.selects RX2 yX2_crest yX2_crest, Cond.initialized RX2, Cond.code yX2_crest cX2_crest 3 (some .int), Cond.methodLink RX2 61 yX1_cell, Cond.instanceMethod yX1_cell, Cond.selects RX1 yX1_cell yX1_cell, Cond.initialized RX1, Cond.code yX1_cell cX1_cell 5 (some .int), Cond.fieldLink RX1 10 "FloodGrid" "now" "LFloodGrid$Plain;", Cond.methodLink RX1 19 yX1_placeOf, Cond.static yX1_placeOf, Cond.code yX1_placeOf cX1_placeOf 2 (some .int), Cond.methodLink RX1 51 yX1_requireIndex, Cond.static yX1_requireIndex, Cond.code yX1_requireIndex cX1_requireIndex 3 none]
def wsX2_isSame_r2 : List Cond := [Cond.classLink RX1 99 "java/lang/IndexOutOfBoundsException", Cond.initialized "java/lang/IndexOutOfBoundsException", Cond.methodLink RX1 57 yX0_cellNumber, Cond.instanceMethod yX0_cellNumber, Cond.selects RX0 yX0_cellNumber yX0_cellNumber, Cond.initialized RX0, Cond.code yX0_cellNumber cX0_cellNumber 3 (some .int), Cond.fieldLink RX0 9 "FloodGrid$Plain" "height" "[I", Cond.fieldLink RX0 15 "FloodGrid$Plain" "water" "[I", Cond.fieldLink RX0 18 "FloodGrid$Plain" "dam" "[I", Cond.fieldLink RX0 21 "FloodGrid$Plain" "wear" "[I", Cond.fieldLink RX0 24 "FloodGrid$Plain" "drain" "[I", Cond.fieldLink RX0 27 "FloodGrid$Plain" "people" "[I", Cond.methodLink RX0 105 yX0_levelOf, Cond.instanceMethod yX0_levelOf, Cond.selects RX0 yX0_levelOf yX0_levelOf, Cond.code yX0_levelOf cX0_levelOf 2 (some .int), Cond.methodLink RX0 94 yX0_crestOf, Cond.instanceMethod yX0_crestOf, Cond.selects RX0 yX0_crestOf yX0_crestOf, Cond.code yX0_crestOf cX0_crestOf 2 (some .int), Cond.methodLink RX0 114 Lib.Math.max.name, Cond.static Lib.Math.max.name, Cond.initialized "java/lang/Math"]
def wsX2_isSame_r3 : List Cond := [Cond.code Lib.Math.max.name Lib.Math.max.code 2 (some .int), Cond.methodLink RX2 67 yX1_count, Cond.instanceMethod yX1_count, Cond.selects RX1 yX1_count yX1_count, Cond.code yX1_count cX1_count 2 (some .int), Cond.methodLink RX1 64 yX0_tally, Cond.instanceMethod yX0_tally, Cond.selects RX0 yX0_tally yX0_tally, Cond.code yX0_tally cX0_tally 2 (some .int), Cond.fieldLink RX0 57 "FloodGrid$Plain" "hour" "I", Cond.fieldLink RX0 61 "FloodGrid$Plain" "broken" "I", Cond.fieldLink RX0 64 "FloodGrid$Plain" "drained" "I", Cond.fieldLink RX0 67 "FloodGrid$Plain" "left" "I", Cond.methodLink RX0 117 yX0_sum, Cond.instanceMethod yX0_sum, Cond.selects RX0 yX0_sum yX0_sum, Cond.code yX0_sum cX0_sum 7 (some .int), Cond.methodLink RX0 121 yX0_wetCells, Cond.instanceMethod yX0_wetCells, Cond.selects RX0 yX0_wetCells yX0_wetCells, Cond.code yX0_wetCells cX0_wetCells 1 (some .int), Cond.methodLink RX0 125 yX0_above0, Cond.instanceMethod yX0_above0, Cond.selects RX0 yX0_above0 yX0_above0]
def wsX2_isSame_r4 : List Cond := [Cond.code yX0_above0 cX0_above0 7 (some .int), Cond.methodLink RX0 128 yX0_lakes, Cond.instanceMethod yX0_lakes, Cond.selects RX0 yX0_lakes yX0_lakes, Cond.code yX0_lakes cX0_lakes 3 (some .int), Cond.fieldLink RX0 39 "FloodGrid$Plain" "seen" "[I", Cond.methodLink RX0 45 yJ7_fill_53178, Cond.static yJ7_fill_53178, Cond.initialized RJ7, Cond.code yJ7_fill_53178 cJ7_fill_53178 4 none, Cond.methodLink RX0 131 yX0_spreadFrom, Cond.instanceMethod yX0_spreadFrom, Cond.selects RX0 yX0_spreadFrom yX0_spreadFrom, Cond.code yX0_spreadFrom cX0_spreadFrom 5 (some .int), Cond.fieldLink RX0 42 "FloodGrid$Plain" "found" "[I", Cond.methodLink RX0 134 yX0_meet, Cond.instanceMethod yX0_meet, Cond.selects RX0 yX0_meet yX0_meet, Cond.code yX0_meet cX0_meet 3 (some .int), Cond.methodLink RX0 111 yX0_neighbourOf, Cond.static yX0_neighbourOf, Cond.code yX0_neighbourOf cX0_neighbourOf 4 (some .int), Cond.methodLink RX2 71 yX2_told, Cond.instanceMethod yX2_told]
def wsX2_isSame_r5 : List Cond := [Cond.selects RX2 yX2_told yX2_told, Cond.code yX2_told cX2_told 6 (some .int), Cond.classLink RX2 59 "[[Z", Cond.arrayClass .boolean, Cond.fieldLink RX2 37 "FloodGridLaw$Sim" "hour" "I", Cond.fieldLink RX2 41 "FloodGridLaw$Sim" "broke" "I", Cond.fieldLink RX2 44 "FloodGridLaw$Sim" "drained" "I", Cond.fieldLink RX2 47 "FloodGridLaw$Sim" "left" "I", Cond.methodLink RX2 55 yX2_spread, Cond.instanceMethod yX2_spread, Cond.selects RX2 yX2_spread yX2_spread, Cond.code yX2_spread cX2_spread 4 (some .int), Cond.methodLink RX2 74 yX1_mean, Cond.instanceMethod yX1_mean, Cond.selects RX1 yX1_mean yX1_mean, Cond.code yX1_mean cX1_mean 2 (some .double), Cond.fieldLink RX1 31 "FloodGrid$Plain" "water" "[I", Cond.methodLink RX1 87 yX0_wetCells, Cond.methodLink RX1 91 yX0_sum]
def wsX2_isSame : List Cond := .code yX2_isSame cX2_isSame 6 (some .boolean) :: ((wsX2_isSame_r1 ++ (wsX2_isSame_r2 ++ (wsX2_isSame_r3 ++ (wsX2_isSame_r4 ++ wsX2_isSame_r5)))) ++ wsX20 ++ wsX10 ++ wsX00 ++ (vx_atS RX1 103 "java/lang/IndexOutOfBoundsException" ["java/lang/RuntimeException", "java/lang/Exception"]).filter goodWord)
def wsJ9_max_7cf53 : List Cond := .code yJ9_max_7cf53 cJ9_max_7cf53 2 (some .int) :: ([])
def wsJ9_min_7cf53 : List Cond := .code yJ9_min_7cf53 cJ9_min_7cf53 2 (some .int) :: ([])
def wsL_below : List Cond := .code yL_below cL_below 2 (some .int) :: ([.constant RL 7 (2147483647)])
def wsL_cell : List Cond := .code yL_cell cL_cell 2 (some .int) :: ([.constant RL 8 (790386105)])
def wsL_act_r1 : List Cond := [Cond.fieldLink RL 15 "FloodGridLaw$Sim" "height" "[[I", Cond.fieldLink RL 27 "FloodGridLaw$Sim" "water" "[[I", Cond.methodLink RL 30 Lib.Math.max.name, Cond.static Lib.Math.max.name, Cond.initialized "java/lang/Math", Cond.code Lib.Math.max.name Lib.Math.max.code 2 (some .int), Cond.fieldLink RL 38 "FloodGridLaw$Sim" "dam" "[[I", Cond.fieldLink RL 41 "FloodGridLaw$Sim" "wear" "[[I", Cond.fieldLink RL 46 "FloodGridLaw$Sim" "drain" "[[I", Cond.fieldLink RL 51 "FloodGridLaw$Sim" "town" "[[I", Cond.fieldLink RL 57 "FloodGridLaw$Sim" "rain" "[I", Cond.methodLink RL 9 yL_below, Cond.static yL_below, Cond.initialized RL, Cond.code yL_below cL_below 2 (some .int), Cond.constant RL 7 (2147483647), Cond.methodLink RL 21 yX1_raise, Cond.instanceMethod yX1_raise, Cond.selects RX1 yX1_raise yX1_raise, Cond.initialized RX1, Cond.code yX1_raise cX1_raise 6 (some .int), Cond.fieldLink RX1 10 "FloodGrid" "now" "LFloodGrid$Plain;", Cond.fieldLink RX1 27 "FloodGrid$Plain" "height" "[I", Cond.methodLink RX1 19 yX1_placeOf]
def wsL_act_r2 : List Cond := [Cond.static yX1_placeOf, Cond.code yX1_placeOf cX1_placeOf 2 (some .int), Cond.methodLink RX1 51 yX1_requireIndex, Cond.static yX1_requireIndex, Cond.code yX1_requireIndex cX1_requireIndex 3 none, Cond.classLink RX1 99 "java/lang/IndexOutOfBoundsException", Cond.initialized "java/lang/IndexOutOfBoundsException", Cond.methodLink RX1 23 yX1_requireWithin, Cond.static yX1_requireWithin, Cond.code yX1_requireWithin cX1_requireWithin 3 none, Cond.classLink RX1 106 "java/lang/IllegalArgumentException", Cond.initialized "java/lang/IllegalArgumentException", Cond.methodLink RL 35 yX1_pour, Cond.instanceMethod yX1_pour, Cond.selects RX1 yX1_pour yX1_pour, Cond.code yX1_pour cX1_pour 5 (some .int), Cond.fieldLink RX1 31 "FloodGrid$Plain" "water" "[I", Cond.methodLink RX1 34 Lib.Math.max.name, Cond.methodLink RL 44 yX1_dam, Cond.instanceMethod yX1_dam, Cond.selects RX1 yX1_dam yX1_dam, Cond.code yX1_dam cX1_dam 6 (some .int), Cond.fieldLink RX1 39 "FloodGrid$Plain" "dam" "[I", Cond.fieldLink RX1 42 "FloodGrid$Plain" "wear" "[I"]
def wsL_act_r3 : List Cond := [Cond.methodLink RL 49 yX1_drain, Cond.instanceMethod yX1_drain, Cond.selects RX1 yX1_drain yX1_drain, Cond.code yX1_drain cX1_drain 6 (some .int), Cond.fieldLink RX1 45 "FloodGrid$Plain" "drain" "[I", Cond.methodLink RL 54 yX1_settle, Cond.instanceMethod yX1_settle, Cond.selects RX1 yX1_settle yX1_settle, Cond.code yX1_settle cX1_settle 6 (some .int), Cond.fieldLink RX1 48 "FloodGrid$Plain" "people" "[I", Cond.methodLink RL 61 yX1_setRain, Cond.instanceMethod yX1_setRain, Cond.selects RX1 yX1_setRain yX1_setRain, Cond.code yX1_setRain cX1_setRain 4 (some .int), Cond.fieldLink RX1 54 "FloodGrid$Plain" "rain" "[I"]
def wsL_act : List Cond := .code yL_act cL_act 8 (some .boolean) :: ((wsL_act_r1 ++ (wsL_act_r2 ++ wsL_act_r3)) ++ wsX20 ++ wsX10 ++ wsX00 ++ (vx_atS RX1 103 "java/lang/IndexOutOfBoundsException" ["java/lang/RuntimeException", "java/lang/Exception"]).filter goodWord ++ (vx_atS RX1 110 "java/lang/IllegalArgumentException" ["java/lang/RuntimeException", "java/lang/Exception"]).filter goodWord)
def wsL_build_r1 : List Cond := [Cond.classLink RL 16 RX2, Cond.instantiable RX2 11, Cond.initialized RX2, Cond.methodLink RL 64 yX2_init, Cond.instanceMethod yX2_init, Cond.code yX2_init cX2_init 6 none, Cond.methodLink RX2 1 objectInit, Cond.instanceMethod objectInit, Cond.code objectInit ⟨#[0xb1]⟩ 1 none, Cond.classLink RX2 7 "[[I", Cond.arrayClass .int, Cond.fieldLink RX2 9 "FloodGridLaw$Sim" "height" "[[I", Cond.fieldLink RX2 14 "FloodGridLaw$Sim" "water" "[[I", Cond.fieldLink RX2 17 "FloodGridLaw$Sim" "dam" "[[I", Cond.fieldLink RX2 20 "FloodGridLaw$Sim" "wear" "[[I", Cond.fieldLink RX2 23 "FloodGridLaw$Sim" "drain" "[[I", Cond.fieldLink RX2 26 "FloodGridLaw$Sim" "town" "[[I", Cond.fieldLink RX2 29 "FloodGridLaw$Sim" "rain" "[I", Cond.methodLink RL 65 yL_cell, Cond.static yL_cell, Cond.initialized RL, Cond.code yL_cell cL_cell 2 (some .int), Cond.constant RL 8 (790386105), Cond.methodLink RL 69 yL_act]
def wsL_build_r2 : List Cond := [Cond.static yL_act, Cond.code yL_act cL_act 8 (some .boolean), Cond.fieldLink RL 15 "FloodGridLaw$Sim" "height" "[[I", Cond.fieldLink RL 27 "FloodGridLaw$Sim" "water" "[[I", Cond.methodLink RL 30 Lib.Math.max.name, Cond.static Lib.Math.max.name, Cond.initialized "java/lang/Math", Cond.code Lib.Math.max.name Lib.Math.max.code 2 (some .int), Cond.fieldLink RL 38 "FloodGridLaw$Sim" "dam" "[[I", Cond.fieldLink RL 41 "FloodGridLaw$Sim" "wear" "[[I", Cond.fieldLink RL 46 "FloodGridLaw$Sim" "drain" "[[I", Cond.fieldLink RL 51 "FloodGridLaw$Sim" "town" "[[I", Cond.fieldLink RL 57 "FloodGridLaw$Sim" "rain" "[I", Cond.methodLink RL 9 yL_below, Cond.static yL_below, Cond.code yL_below cL_below 2 (some .int), Cond.constant RL 7 (2147483647), Cond.methodLink RL 21 yX1_raise, Cond.instanceMethod yX1_raise, Cond.selects RX1 yX1_raise yX1_raise, Cond.initialized RX1, Cond.code yX1_raise cX1_raise 6 (some .int), Cond.fieldLink RX1 10 "FloodGrid" "now" "LFloodGrid$Plain;", Cond.fieldLink RX1 27 "FloodGrid$Plain" "height" "[I"]
def wsL_build_r3 : List Cond := [Cond.methodLink RX1 19 yX1_placeOf, Cond.static yX1_placeOf, Cond.code yX1_placeOf cX1_placeOf 2 (some .int), Cond.methodLink RX1 51 yX1_requireIndex, Cond.static yX1_requireIndex, Cond.code yX1_requireIndex cX1_requireIndex 3 none, Cond.classLink RX1 99 "java/lang/IndexOutOfBoundsException", Cond.initialized "java/lang/IndexOutOfBoundsException", Cond.methodLink RX1 23 yX1_requireWithin, Cond.static yX1_requireWithin, Cond.code yX1_requireWithin cX1_requireWithin 3 none, Cond.classLink RX1 106 "java/lang/IllegalArgumentException", Cond.initialized "java/lang/IllegalArgumentException", Cond.methodLink RL 35 yX1_pour, Cond.instanceMethod yX1_pour, Cond.selects RX1 yX1_pour yX1_pour, Cond.code yX1_pour cX1_pour 5 (some .int), Cond.fieldLink RX1 31 "FloodGrid$Plain" "water" "[I", Cond.methodLink RX1 34 Lib.Math.max.name, Cond.methodLink RL 44 yX1_dam, Cond.instanceMethod yX1_dam, Cond.selects RX1 yX1_dam yX1_dam, Cond.code yX1_dam cX1_dam 6 (some .int), Cond.fieldLink RX1 39 "FloodGrid$Plain" "dam" "[I"]
def wsL_build_r4 : List Cond := [Cond.fieldLink RX1 42 "FloodGrid$Plain" "wear" "[I", Cond.methodLink RL 49 yX1_drain, Cond.instanceMethod yX1_drain, Cond.selects RX1 yX1_drain yX1_drain, Cond.code yX1_drain cX1_drain 6 (some .int), Cond.fieldLink RX1 45 "FloodGrid$Plain" "drain" "[I", Cond.methodLink RL 54 yX1_settle, Cond.instanceMethod yX1_settle, Cond.selects RX1 yX1_settle yX1_settle, Cond.code yX1_settle cX1_settle 6 (some .int), Cond.fieldLink RX1 48 "FloodGrid$Plain" "people" "[I", Cond.methodLink RL 61 yX1_setRain, Cond.instanceMethod yX1_setRain, Cond.selects RX1 yX1_setRain yX1_setRain, Cond.code yX1_setRain cX1_setRain 4 (some .int), Cond.fieldLink RX1 54 "FloodGrid$Plain" "rain" "[I"]
def wsL_build : List Cond := .code yL_build cL_build 4 (some (.object "FloodGridLaw$Sim")) :: ((wsL_build_r1 ++ (wsL_build_r2 ++ (wsL_build_r3 ++ wsL_build_r4))) ++ wsX20 ++ wsX10 ++ wsX00 ++ (vx_atS RX1 103 "java/lang/IndexOutOfBoundsException" ["java/lang/RuntimeException", "java/lang/Exception"]).filter goodWord ++ (vx_atS RX1 110 "java/lang/IllegalArgumentException" ["java/lang/RuntimeException", "java/lang/Exception"]).filter goodWord)
def wsL_law0_r1 : List Cond := [Cond.classLink RL 22 RX1, Cond.instantiable RX1 2, Cond.initialized RX1, Cond.classLink RL 78 "[[I", Cond.arrayClass .int, Cond.fieldLink RL 57 "FloodGridLaw$Sim" "rain" "[I", Cond.methodLink RL 30 Lib.Math.max.name, Cond.static Lib.Math.max.name, Cond.initialized "java/lang/Math", Cond.code Lib.Math.max.name Lib.Math.max.code 2 (some .int), Cond.methodLink RL 73 yX1_init, Cond.instanceMethod yX1_init, Cond.code yX1_init cX1_init 1 none, Cond.methodLink RX1 1 objectInit, Cond.instanceMethod objectInit, Cond.code objectInit ⟨#[0xb1]⟩ 1 none, Cond.classLink RX1 7 RX0, Cond.instantiable RX0 15, Cond.initialized RX0, Cond.fieldLink RX1 10 "FloodGrid" "now" "LFloodGrid$Plain;", Cond.fieldLink RX1 16 "FloodGrid" "ahead" "LFloodGrid$Plain;", Cond.methodLink RX1 9 yX0_init, Cond.instanceMethod yX0_init, Cond.code yX0_init cX0_init 1 none]
def wsL_law0_r2 : List Cond := [Cond.methodLink RX0 3 objectInit, Cond.fieldLink RX0 9 "FloodGrid$Plain" "height" "[I", Cond.fieldLink RX0 15 "FloodGrid$Plain" "water" "[I", Cond.fieldLink RX0 18 "FloodGrid$Plain" "dam" "[I", Cond.fieldLink RX0 21 "FloodGrid$Plain" "wear" "[I", Cond.fieldLink RX0 24 "FloodGrid$Plain" "drain" "[I", Cond.fieldLink RX0 27 "FloodGrid$Plain" "people" "[I", Cond.fieldLink RX0 30 "FloodGrid$Plain" "rain" "[I", Cond.fieldLink RX0 33 "FloodGrid$Plain" "crests" "[I", Cond.fieldLink RX0 36 "FloodGrid$Plain" "gained" "[I", Cond.fieldLink RX0 39 "FloodGrid$Plain" "seen" "[I", Cond.fieldLink RX0 42 "FloodGrid$Plain" "found" "[I", Cond.methodLink RX0 45 yJ7_fill_53178, Cond.static yJ7_fill_53178, Cond.initialized RJ7, Cond.code yJ7_fill_53178 cJ7_fill_53178 4 none, Cond.methodLink RL 74 yL_build, Cond.static yL_build, Cond.initialized RL, Cond.code yL_build cL_build 4 (some (.object "FloodGridLaw$Sim")), Cond.classLink RL 16 RX2, Cond.instantiable RX2 11, Cond.initialized RX2, Cond.methodLink RL 64 yX2_init]
def wsL_law0_r3 : List Cond := [Cond.instanceMethod yX2_init, Cond.code yX2_init cX2_init 6 none, Cond.methodLink RX2 1 objectInit, Cond.classLink RX2 7 "[[I", Cond.fieldLink RX2 9 "FloodGridLaw$Sim" "height" "[[I", Cond.fieldLink RX2 14 "FloodGridLaw$Sim" "water" "[[I", Cond.fieldLink RX2 17 "FloodGridLaw$Sim" "dam" "[[I", Cond.fieldLink RX2 20 "FloodGridLaw$Sim" "wear" "[[I", Cond.fieldLink RX2 23 "FloodGridLaw$Sim" "drain" "[[I", Cond.fieldLink RX2 26 "FloodGridLaw$Sim" "town" "[[I", Cond.fieldLink RX2 29 "FloodGridLaw$Sim" "rain" "[I", Cond.methodLink RL 65 yL_cell, Cond.static yL_cell, Cond.code yL_cell cL_cell 2 (some .int), Cond.constant RL 8 (790386105), Cond.methodLink RL 69 yL_act, Cond.static yL_act, Cond.code yL_act cL_act 8 (some .boolean), Cond.fieldLink RL 15 "FloodGridLaw$Sim" "height" "[[I", Cond.fieldLink RL 27 "FloodGridLaw$Sim" "water" "[[I", Cond.fieldLink RL 38 "FloodGridLaw$Sim" "dam" "[[I", Cond.fieldLink RL 41 "FloodGridLaw$Sim" "wear" "[[I", Cond.fieldLink RL 46 "FloodGridLaw$Sim" "drain" "[[I", Cond.fieldLink RL 51 "FloodGridLaw$Sim" "town" "[[I"]
def wsL_law0_r4 : List Cond := [Cond.methodLink RL 9 yL_below, Cond.static yL_below, Cond.code yL_below cL_below 2 (some .int), Cond.constant RL 7 (2147483647), Cond.methodLink RL 21 yX1_raise, Cond.instanceMethod yX1_raise, Cond.selects RX1 yX1_raise yX1_raise, Cond.code yX1_raise cX1_raise 6 (some .int), Cond.fieldLink RX1 27 "FloodGrid$Plain" "height" "[I", Cond.methodLink RX1 19 yX1_placeOf, Cond.static yX1_placeOf, Cond.code yX1_placeOf cX1_placeOf 2 (some .int), Cond.methodLink RX1 51 yX1_requireIndex, Cond.static yX1_requireIndex, Cond.code yX1_requireIndex cX1_requireIndex 3 none, Cond.classLink RX1 99 "java/lang/IndexOutOfBoundsException", Cond.initialized "java/lang/IndexOutOfBoundsException", Cond.methodLink RX1 23 yX1_requireWithin, Cond.static yX1_requireWithin, Cond.code yX1_requireWithin cX1_requireWithin 3 none, Cond.classLink RX1 106 "java/lang/IllegalArgumentException", Cond.initialized "java/lang/IllegalArgumentException", Cond.methodLink RL 35 yX1_pour, Cond.instanceMethod yX1_pour]
def wsL_law0_r5 : List Cond := [Cond.selects RX1 yX1_pour yX1_pour, Cond.code yX1_pour cX1_pour 5 (some .int), Cond.fieldLink RX1 31 "FloodGrid$Plain" "water" "[I", Cond.methodLink RX1 34 Lib.Math.max.name, Cond.methodLink RL 44 yX1_dam, Cond.instanceMethod yX1_dam, Cond.selects RX1 yX1_dam yX1_dam, Cond.code yX1_dam cX1_dam 6 (some .int), Cond.fieldLink RX1 39 "FloodGrid$Plain" "dam" "[I", Cond.fieldLink RX1 42 "FloodGrid$Plain" "wear" "[I", Cond.methodLink RL 49 yX1_drain, Cond.instanceMethod yX1_drain, Cond.selects RX1 yX1_drain yX1_drain, Cond.code yX1_drain cX1_drain 6 (some .int), Cond.fieldLink RX1 45 "FloodGrid$Plain" "drain" "[I", Cond.methodLink RL 54 yX1_settle, Cond.instanceMethod yX1_settle, Cond.selects RX1 yX1_settle yX1_settle, Cond.code yX1_settle cX1_settle 6 (some .int), Cond.fieldLink RX1 48 "FloodGrid$Plain" "people" "[I", Cond.methodLink RL 61 yX1_setRain, Cond.instanceMethod yX1_setRain, Cond.selects RX1 yX1_setRain yX1_setRain, Cond.code yX1_setRain cX1_setRain 4 (some .int)]
def wsL_law0_r6 : List Cond := [Cond.fieldLink RX1 54 "FloodGrid$Plain" "rain" "[I", Cond.methodLink RL 79 yX1_cell, Cond.instanceMethod yX1_cell, Cond.selects RX1 yX1_cell yX1_cell, Cond.code yX1_cell cX1_cell 5 (some .int), Cond.methodLink RX1 57 yX0_cellNumber, Cond.instanceMethod yX0_cellNumber, Cond.selects RX0 yX0_cellNumber yX0_cellNumber, Cond.code yX0_cellNumber cX0_cellNumber 3 (some .int), Cond.methodLink RX0 105 yX0_levelOf, Cond.instanceMethod yX0_levelOf, Cond.selects RX0 yX0_levelOf yX0_levelOf, Cond.code yX0_levelOf cX0_levelOf 2 (some .int), Cond.methodLink RX0 94 yX0_crestOf, Cond.instanceMethod yX0_crestOf, Cond.selects RX0 yX0_crestOf yX0_crestOf, Cond.code yX0_crestOf cX0_crestOf 2 (some .int), Cond.methodLink RX0 114 Lib.Math.max.name, Cond.methodLink RL 81 yX1_count, Cond.instanceMethod yX1_count, Cond.selects RX1 yX1_count yX1_count, Cond.code yX1_count cX1_count 2 (some .int), Cond.methodLink RX1 64 yX0_tally, Cond.instanceMethod yX0_tally]
def wsL_law0_r7 : List Cond := [Cond.selects RX0 yX0_tally yX0_tally, Cond.code yX0_tally cX0_tally 2 (some .int), Cond.fieldLink RX0 57 "FloodGrid$Plain" "hour" "I", Cond.fieldLink RX0 61 "FloodGrid$Plain" "broken" "I", Cond.fieldLink RX0 64 "FloodGrid$Plain" "drained" "I", Cond.fieldLink RX0 67 "FloodGrid$Plain" "left" "I", Cond.methodLink RX0 117 yX0_sum, Cond.instanceMethod yX0_sum, Cond.selects RX0 yX0_sum yX0_sum, Cond.code yX0_sum cX0_sum 7 (some .int), Cond.methodLink RX0 121 yX0_wetCells, Cond.instanceMethod yX0_wetCells, Cond.selects RX0 yX0_wetCells yX0_wetCells, Cond.code yX0_wetCells cX0_wetCells 1 (some .int), Cond.methodLink RX0 125 yX0_above0, Cond.instanceMethod yX0_above0, Cond.selects RX0 yX0_above0 yX0_above0, Cond.code yX0_above0 cX0_above0 7 (some .int), Cond.methodLink RX0 128 yX0_lakes, Cond.instanceMethod yX0_lakes, Cond.selects RX0 yX0_lakes yX0_lakes, Cond.code yX0_lakes cX0_lakes 3 (some .int), Cond.methodLink RX0 131 yX0_spreadFrom, Cond.instanceMethod yX0_spreadFrom]
def wsL_law0_r8 : List Cond := [Cond.selects RX0 yX0_spreadFrom yX0_spreadFrom, Cond.code yX0_spreadFrom cX0_spreadFrom 5 (some .int), Cond.methodLink RX0 134 yX0_meet, Cond.instanceMethod yX0_meet, Cond.selects RX0 yX0_meet yX0_meet, Cond.code yX0_meet cX0_meet 3 (some .int), Cond.methodLink RX0 111 yX0_neighbourOf, Cond.static yX0_neighbourOf, Cond.code yX0_neighbourOf cX0_neighbourOf 4 (some .int), Cond.methodLink RL 85 yX1_foresee, Cond.instanceMethod yX1_foresee, Cond.selects RX1 yX1_foresee yX1_foresee, Cond.code yX1_foresee cX1_foresee 3 (some .int), Cond.methodLink RX1 70 yX0_becomeLike, Cond.instanceMethod yX0_becomeLike, Cond.selects RX0 yX0_becomeLike yX0_becomeLike, Cond.code yX0_becomeLike cX0_becomeLike 2 none, Cond.methodLink RX0 51 arraycopyName, Cond.native arraycopyName, Cond.static arraycopyName, Cond.initialized "java/lang/System", Cond.methodLink RX1 67 yX0_goHours, Cond.instanceMethod yX0_goHours, Cond.selects RX0 yX0_goHours yX0_goHours]
def wsL_law0_r9 : List Cond := [Cond.code yX0_goHours cX0_goHours 4 (some .int), Cond.methodLink RX0 70 yX0_goOneHour, Cond.instanceMethod yX0_goOneHour, Cond.selects RX0 yX0_goOneHour yX0_goOneHour, Cond.code yX0_goOneHour cX0_goOneHour 1 none, Cond.methodLink RX0 73 yX0_letRainFall, Cond.instanceMethod yX0_letRainFall, Cond.selects RX0 yX0_letRainFall yX0_letRainFall, Cond.code yX0_letRainFall cX0_letRainFall 3 none, Cond.methodLink RX0 88 yJ9_floorMod_7cf53, Cond.static yJ9_floorMod_7cf53, Cond.initialized RJ9, Cond.code yJ9_floorMod_7cf53 cJ9_floorMod_7cf53 3 (some .int), Cond.methodLink RX0 76 yX0_letWaterRun, Cond.instanceMethod yX0_letWaterRun, Cond.selects RX0 yX0_letWaterRun yX0_letWaterRun, Cond.code yX0_letWaterRun cX0_letWaterRun 2 none, Cond.methodLink RX0 98 yX0_lowestNeighbour, Cond.instanceMethod yX0_lowestNeighbour, Cond.selects RX0 yX0_lowestNeighbour yX0_lowestNeighbour, Cond.code yX0_lowestNeighbour cX0_lowestNeighbour 5 (some .int), Cond.methodLink RX0 101 yX0_give, Cond.instanceMethod yX0_give, Cond.selects RX0 yX0_give yX0_give]
def wsL_law0_r10 : List Cond := [Cond.code yX0_give cX0_give 5 none, Cond.methodLink RX0 108 Lib.Math.min.name, Cond.static Lib.Math.min.name, Cond.code Lib.Math.min.name Lib.Math.min.code 2 (some .int), Cond.methodLink RX0 79 yX0_wearDams, Cond.instanceMethod yX0_wearDams, Cond.selects RX0 yX0_wearDams yX0_wearDams, Cond.code yX0_wearDams cX0_wearDams 2 none, Cond.methodLink RX0 82 yX0_drainCells, Cond.instanceMethod yX0_drainCells, Cond.selects RX0 yX0_drainCells yX0_drainCells, Cond.code yX0_drainCells cX0_drainCells 3 none, Cond.methodLink RX0 85 yX0_leaveTowns, Cond.instanceMethod yX0_leaveTowns, Cond.selects RX0 yX0_leaveTowns yX0_leaveTowns, Cond.code yX0_leaveTowns cX0_leaveTowns 3 none, Cond.methodLink RL 88 yX1_floods, Cond.instanceMethod yX1_floods, Cond.selects RX1 yX1_floods yX1_floods, Cond.code yX1_floods cX1_floods 5 (some .int), Cond.methodLink RX1 74 yX0_goOneHour, Cond.methodLink RL 91 yX1_breaks, Cond.instanceMethod yX1_breaks, Cond.selects RX1 yX1_breaks yX1_breaks]
def wsL_law0_r11 : List Cond := [Cond.code yX1_breaks cX1_breaks 5 (some .int), Cond.methodLink RL 94 yX1_pass, Cond.instanceMethod yX1_pass, Cond.selects RX1 yX1_pass yX1_pass, Cond.code yX1_pass cX1_pass 2 (some .int), Cond.methodLink RL 97 yX2_pass, Cond.instanceMethod yX2_pass, Cond.selects RX2 yX2_pass yX2_pass, Cond.code yX2_pass cX2_pass 12 (some .int), Cond.fieldLink RX2 47 "FloodGridLaw$Sim" "left" "I", Cond.fieldLink RX2 37 "FloodGridLaw$Sim" "hour" "I", Cond.constant RX2 50 (100000), Cond.fieldLink RX2 41 "FloodGridLaw$Sim" "broke" "I", Cond.fieldLink RX2 44 "FloodGridLaw$Sim" "drained" "I", Cond.methodLink RX2 51 yX2_crest, Cond.instanceMethod yX2_crest, Cond.selects RX2 yX2_crest yX2_crest, Cond.code yX2_crest cX2_crest 3 (some .int), Cond.methodLink RL 100 yX1_lake, Cond.instanceMethod yX1_lake, Cond.selects RX1 yX1_lake yX1_lake, Cond.code yX1_lake cX1_lake 3 (some .int), Cond.methodLink RX1 60 yX0_lakeSize, Cond.instanceMethod yX0_lakeSize]
def wsL_law0_r12 : List Cond := [Cond.selects RX0 yX0_lakeSize yX0_lakeSize, Cond.code yX0_lakeSize cX0_lakeSize 2 (some .int), Cond.methodLink RL 103 yX1_mean, Cond.instanceMethod yX1_mean, Cond.selects RX1 yX1_mean yX1_mean, Cond.code yX1_mean cX1_mean 2 (some .double), Cond.methodLink RX1 87 yX0_wetCells, Cond.methodLink RX1 91 yX0_sum, Cond.methodLink RL 107 yX2_isSame, Cond.instanceMethod yX2_isSame, Cond.selects RX2 yX2_isSame yX2_isSame, Cond.code yX2_isSame cX2_isSame 6 (some .boolean), Cond.methodLink RX2 61 yX1_cell, Cond.methodLink RX2 67 yX1_count, Cond.methodLink RX2 71 yX2_told, Cond.instanceMethod yX2_told, Cond.selects RX2 yX2_told yX2_told, Cond.code yX2_told cX2_told 6 (some .int), Cond.classLink RX2 59 "[[Z", Cond.arrayClass .boolean, Cond.methodLink RX2 55 yX2_spread, Cond.instanceMethod yX2_spread, Cond.selects RX2 yX2_spread yX2_spread, Cond.code yX2_spread cX2_spread 4 (some .int)]
def wsL_law0_r13 : List Cond := [Cond.methodLink RX2 74 yX1_mean]
def wsL_law0 : List Cond := (wsL_law0_r1 ++ (wsL_law0_r2 ++ (wsL_law0_r3 ++ (wsL_law0_r4 ++ (wsL_law0_r5 ++ (wsL_law0_r6 ++ (wsL_law0_r7 ++ (wsL_law0_r8 ++ (wsL_law0_r9 ++ (wsL_law0_r10 ++ (wsL_law0_r11 ++ (wsL_law0_r12 ++ wsL_law0_r13)))))))))))) ++ wsX10 ++ wsX20 ++ wsX00 ++ ([] : List Cond)
def wsL_law : List Cond := wsL_law0 ++ (vx_atS RX1 103 "java/lang/IndexOutOfBoundsException" ["java/lang/RuntimeException", "java/lang/Exception"]).filter goodWord ++ (vx_atS RX1 110 "java/lang/IllegalArgumentException" ["java/lang/RuntimeException", "java/lang/Exception"]).filter goodWord
abbrev vwCl : List vw_C := [(RX0, TX0, 15), (RX1, TX1, 2), (RX2, TX2, 11)]
end
section
theorem dJ9_floorMod_7cf53_0 : decode cJ9_floorMod_7cf53 0 = .ok (.iload_n 0, 1) := by decide +kernel
theorem dJ9_floorMod_7cf53_1 : decode cJ9_floorMod_7cf53 1 = .ok (.iload_n 1, 1) := by decide +kernel
theorem dJ9_floorMod_7cf53_2 : decode cJ9_floorMod_7cf53 2 = .ok (.irem, 1) := by decide +kernel
theorem dJ9_floorMod_7cf53_3 : decode cJ9_floorMod_7cf53 3 = .ok (.istore_n 2, 1) := by decide +kernel
theorem dJ9_floorMod_7cf53_4 : decode cJ9_floorMod_7cf53 4 = .ok (.iload_n 0, 1) := by decide +kernel
theorem dJ9_floorMod_7cf53_5 : decode cJ9_floorMod_7cf53 5 = .ok (.iload_n 1, 1) := by decide +kernel
theorem dJ9_floorMod_7cf53_6 : decode cJ9_floorMod_7cf53 6 = .ok (.ixor, 1) := by decide +kernel
theorem dJ9_floorMod_7cf53_7 : decode cJ9_floorMod_7cf53 7 = .ok (.ifCond .ge 11, 3) := by decide +kernel
theorem dJ9_floorMod_7cf53_10 : decode cJ9_floorMod_7cf53 10 = .ok (.iload_n 2, 1) := by decide +kernel
theorem dJ9_floorMod_7cf53_11 : decode cJ9_floorMod_7cf53 11 = .ok (.ifCond .eq 7, 3) := by decide +kernel
theorem dJ9_floorMod_7cf53_14 : decode cJ9_floorMod_7cf53 14 = .ok (.iload_n 2, 1) := by decide +kernel
theorem dJ9_floorMod_7cf53_15 : decode cJ9_floorMod_7cf53 15 = .ok (.iload_n 1, 1) := by decide +kernel
theorem dJ9_floorMod_7cf53_16 : decode cJ9_floorMod_7cf53 16 = .ok (.iadd, 1) := by decide +kernel
theorem dJ9_floorMod_7cf53_17 : decode cJ9_floorMod_7cf53 17 = .ok (.ireturn, 1) := by decide +kernel
theorem dJ9_floorMod_7cf53_18 : decode cJ9_floorMod_7cf53 18 = .ok (.iload_n 2, 1) := by decide +kernel
theorem dJ9_floorMod_7cf53_19 : decode cJ9_floorMod_7cf53 19 = .ok (.ireturn, 1) := by decide +kernel
theorem dJ9_max_7cf53_0 : decode cJ9_max_7cf53 0 = .ok (.iload_n 0, 1) := by decide +kernel
theorem dJ9_max_7cf53_1 : decode cJ9_max_7cf53 1 = .ok (.iload_n 1, 1) := by decide +kernel
theorem dJ9_max_7cf53_2 : decode cJ9_max_7cf53 2 = .ok (.if_icmp .lt 7, 3) := by decide +kernel
theorem dJ9_max_7cf53_5 : decode cJ9_max_7cf53 5 = .ok (.iload_n 0, 1) := by decide +kernel
theorem dJ9_max_7cf53_6 : decode cJ9_max_7cf53 6 = .ok (.goto 4, 3) := by decide +kernel
theorem dJ9_max_7cf53_9 : decode cJ9_max_7cf53 9 = .ok (.iload_n 1, 1) := by decide +kernel
theorem dJ9_max_7cf53_10 : decode cJ9_max_7cf53 10 = .ok (.ireturn, 1) := by decide +kernel
theorem dJ9_min_7cf53_0 : decode cJ9_min_7cf53 0 = .ok (.iload_n 0, 1) := by decide +kernel
theorem dJ9_min_7cf53_1 : decode cJ9_min_7cf53 1 = .ok (.iload_n 1, 1) := by decide +kernel
theorem dJ9_min_7cf53_2 : decode cJ9_min_7cf53 2 = .ok (.if_icmp .gt 7, 3) := by decide +kernel
theorem dJ9_min_7cf53_5 : decode cJ9_min_7cf53 5 = .ok (.iload_n 0, 1) := by decide +kernel
theorem dJ9_min_7cf53_6 : decode cJ9_min_7cf53 6 = .ok (.goto 4, 3) := by decide +kernel
theorem dJ9_min_7cf53_9 : decode cJ9_min_7cf53 9 = .ok (.iload_n 1, 1) := by decide +kernel
theorem dJ9_min_7cf53_10 : decode cJ9_min_7cf53 10 = .ok (.ireturn, 1) := by decide +kernel
theorem dJ7_fill_53178_0 : decode cJ7_fill_53178 0 = .ok (.iconst 0, 1) := by decide +kernel
theorem dJ7_fill_53178_1 : decode cJ7_fill_53178 1 = .ok (.istore_n 2, 1) := by decide +kernel
theorem dJ7_fill_53178_2 : decode cJ7_fill_53178 2 = .ok (.aload_n 0, 1) := by decide +kernel
theorem dJ7_fill_53178_3 : decode cJ7_fill_53178 3 = .ok (.arraylength, 1) := by decide +kernel
theorem dJ7_fill_53178_4 : decode cJ7_fill_53178 4 = .ok (.istore_n 3, 1) := by decide +kernel
theorem dJ7_fill_53178_5 : decode cJ7_fill_53178 5 = .ok (.iload_n 2, 1) := by decide +kernel
theorem dJ7_fill_53178_6 : decode cJ7_fill_53178 6 = .ok (.iload_n 3, 1) := by decide +kernel
theorem dJ7_fill_53178_7 : decode cJ7_fill_53178 7 = .ok (.if_icmp .ge 13, 3) := by decide +kernel
theorem dJ7_fill_53178_10 : decode cJ7_fill_53178 10 = .ok (.aload_n 0, 1) := by decide +kernel
theorem dJ7_fill_53178_11 : decode cJ7_fill_53178 11 = .ok (.iload_n 2, 1) := by decide +kernel
theorem dJ7_fill_53178_12 : decode cJ7_fill_53178 12 = .ok (.iload_n 1, 1) := by decide +kernel
theorem dJ7_fill_53178_13 : decode cJ7_fill_53178 13 = .ok (.iastore, 1) := by decide +kernel
theorem dJ7_fill_53178_14 : decode cJ7_fill_53178 14 = .ok (.iinc 2 1, 3) := by decide +kernel
theorem dJ7_fill_53178_17 : decode cJ7_fill_53178 17 = .ok (.goto (-12), 3) := by decide +kernel
theorem dJ7_fill_53178_20 : decode cJ7_fill_53178 20 = .ok (.return_, 1) := by decide +kernel
set_option maxRecDepth 20000 in
theorem ggX0_init_J7_fill_53178 : GoodIn wsX0_init wsJ7_fill_53178 := goodIn_r _ [19] (by decide +kernel) (by decide +kernel)
set_option maxRecDepth 20000 in
theorem gX0_init_J7_fill_53178 : GoodIn wsX0_init (va_wsS RX0 45 yJ7_fill_53178 wsJ7_fill_53178) := goodIn_app (goodIn_of _ (by decide +kernel)) ggX0_init_J7_fill_53178
theorem dX0_init_0 : decode cX0_init 0 = .ok (.aload_n 0, 1) := by decide +kernel
theorem dX0_init_1 : decode cX0_init 1 = .ok (.invokespecial 3, 3) := by decide +kernel
theorem dX0_init_4 : decode cX0_init 4 = .ok (.aload_n 0, 1) := by decide +kernel
theorem dX0_init_5 : decode cX0_init 5 = .ok (.bipush 64, 2) := by decide +kernel
theorem dX0_init_7 : decode cX0_init 7 = .ok (.newarray .int, 2) := by decide +kernel
theorem dX0_init_9 : decode cX0_init 9 = .ok (.putfield 9, 3) := by decide +kernel
theorem dX0_init_12 : decode cX0_init 12 = .ok (.aload_n 0, 1) := by decide +kernel
theorem dX0_init_13 : decode cX0_init 13 = .ok (.bipush 64, 2) := by decide +kernel
theorem dX0_init_15 : decode cX0_init 15 = .ok (.newarray .int, 2) := by decide +kernel
theorem dX0_init_17 : decode cX0_init 17 = .ok (.putfield 15, 3) := by decide +kernel
theorem dX0_init_20 : decode cX0_init 20 = .ok (.aload_n 0, 1) := by decide +kernel
theorem dX0_init_21 : decode cX0_init 21 = .ok (.bipush 64, 2) := by decide +kernel
theorem dX0_init_23 : decode cX0_init 23 = .ok (.newarray .int, 2) := by decide +kernel
theorem dX0_init_25 : decode cX0_init 25 = .ok (.putfield 18, 3) := by decide +kernel
theorem dX0_init_28 : decode cX0_init 28 = .ok (.aload_n 0, 1) := by decide +kernel
theorem dX0_init_29 : decode cX0_init 29 = .ok (.bipush 64, 2) := by decide +kernel
theorem dX0_init_31 : decode cX0_init 31 = .ok (.newarray .int, 2) := by decide +kernel
theorem dX0_init_33 : decode cX0_init 33 = .ok (.putfield 21, 3) := by decide +kernel
theorem dX0_init_36 : decode cX0_init 36 = .ok (.aload_n 0, 1) := by decide +kernel
theorem dX0_init_37 : decode cX0_init 37 = .ok (.bipush 64, 2) := by decide +kernel
theorem dX0_init_39 : decode cX0_init 39 = .ok (.newarray .int, 2) := by decide +kernel
theorem dX0_init_41 : decode cX0_init 41 = .ok (.putfield 24, 3) := by decide +kernel
theorem dX0_init_44 : decode cX0_init 44 = .ok (.aload_n 0, 1) := by decide +kernel
theorem dX0_init_45 : decode cX0_init 45 = .ok (.bipush 64, 2) := by decide +kernel
theorem dX0_init_47 : decode cX0_init 47 = .ok (.newarray .int, 2) := by decide +kernel
theorem dX0_init_49 : decode cX0_init 49 = .ok (.putfield 27, 3) := by decide +kernel
theorem dX0_init_52 : decode cX0_init 52 = .ok (.aload_n 0, 1) := by decide +kernel
theorem dX0_init_53 : decode cX0_init 53 = .ok (.bipush 12, 2) := by decide +kernel
theorem dX0_init_55 : decode cX0_init 55 = .ok (.newarray .int, 2) := by decide +kernel
theorem dX0_init_57 : decode cX0_init 57 = .ok (.putfield 30, 3) := by decide +kernel
theorem dX0_init_60 : decode cX0_init 60 = .ok (.aload_n 0, 1) := by decide +kernel
theorem dX0_init_61 : decode cX0_init 61 = .ok (.bipush 64, 2) := by decide +kernel
theorem dX0_init_63 : decode cX0_init 63 = .ok (.newarray .int, 2) := by decide +kernel
theorem dX0_init_65 : decode cX0_init 65 = .ok (.putfield 33, 3) := by decide +kernel
theorem dX0_init_68 : decode cX0_init 68 = .ok (.aload_n 0, 1) := by decide +kernel
theorem dX0_init_69 : decode cX0_init 69 = .ok (.bipush 64, 2) := by decide +kernel
theorem dX0_init_71 : decode cX0_init 71 = .ok (.newarray .int, 2) := by decide +kernel
theorem dX0_init_73 : decode cX0_init 73 = .ok (.putfield 36, 3) := by decide +kernel
theorem dX0_init_76 : decode cX0_init 76 = .ok (.aload_n 0, 1) := by decide +kernel
theorem dX0_init_77 : decode cX0_init 77 = .ok (.bipush 64, 2) := by decide +kernel
theorem dX0_init_79 : decode cX0_init 79 = .ok (.newarray .int, 2) := by decide +kernel
theorem dX0_init_81 : decode cX0_init 81 = .ok (.putfield 39, 3) := by decide +kernel
theorem dX0_init_84 : decode cX0_init 84 = .ok (.aload_n 0, 1) := by decide +kernel
theorem dX0_init_85 : decode cX0_init 85 = .ok (.bipush 64, 2) := by decide +kernel
theorem dX0_init_87 : decode cX0_init 87 = .ok (.newarray .int, 2) := by decide +kernel
theorem dX0_init_89 : decode cX0_init 89 = .ok (.putfield 42, 3) := by decide +kernel
theorem dX0_init_92 : decode cX0_init 92 = .ok (.aload_n 0, 1) := by decide +kernel
theorem dX0_init_93 : decode cX0_init 93 = .ok (.getfield 9, 3) := by decide +kernel
theorem dX0_init_96 : decode cX0_init 96 = .ok (.bipush 10, 2) := by decide +kernel
theorem dX0_init_98 : decode cX0_init 98 = .ok (.invokestatic 45, 3) := by decide +kernel
theorem dX0_init_101 : decode cX0_init 101 = .ok (.return_, 1) := by decide +kernel
theorem dX0_becomeLike_0 : decode cX0_becomeLike 0 = .ok (.aload_n 1, 1) := by decide +kernel
theorem dX0_becomeLike_1 : decode cX0_becomeLike 1 = .ok (.getfield 9, 3) := by decide +kernel
theorem dX0_becomeLike_4 : decode cX0_becomeLike 4 = .ok (.iconst 0, 1) := by decide +kernel
theorem dX0_becomeLike_5 : decode cX0_becomeLike 5 = .ok (.aload_n 0, 1) := by decide +kernel
theorem dX0_becomeLike_6 : decode cX0_becomeLike 6 = .ok (.getfield 9, 3) := by decide +kernel
theorem dX0_becomeLike_9 : decode cX0_becomeLike 9 = .ok (.iconst 0, 1) := by decide +kernel
theorem dX0_becomeLike_10 : decode cX0_becomeLike 10 = .ok (.bipush 64, 2) := by decide +kernel
theorem dX0_becomeLike_12 : decode cX0_becomeLike 12 = .ok (.invokestatic 51, 3) := by decide +kernel
theorem dX0_becomeLike_15 : decode cX0_becomeLike 15 = .ok (.aload_n 1, 1) := by decide +kernel
theorem dX0_becomeLike_16 : decode cX0_becomeLike 16 = .ok (.getfield 15, 3) := by decide +kernel
theorem dX0_becomeLike_19 : decode cX0_becomeLike 19 = .ok (.iconst 0, 1) := by decide +kernel
theorem dX0_becomeLike_20 : decode cX0_becomeLike 20 = .ok (.aload_n 0, 1) := by decide +kernel
theorem dX0_becomeLike_21 : decode cX0_becomeLike 21 = .ok (.getfield 15, 3) := by decide +kernel
theorem dX0_becomeLike_24 : decode cX0_becomeLike 24 = .ok (.iconst 0, 1) := by decide +kernel
theorem dX0_becomeLike_25 : decode cX0_becomeLike 25 = .ok (.bipush 64, 2) := by decide +kernel
theorem dX0_becomeLike_27 : decode cX0_becomeLike 27 = .ok (.invokestatic 51, 3) := by decide +kernel
theorem dX0_becomeLike_30 : decode cX0_becomeLike 30 = .ok (.aload_n 1, 1) := by decide +kernel
theorem dX0_becomeLike_31 : decode cX0_becomeLike 31 = .ok (.getfield 18, 3) := by decide +kernel
theorem dX0_becomeLike_34 : decode cX0_becomeLike 34 = .ok (.iconst 0, 1) := by decide +kernel
theorem dX0_becomeLike_35 : decode cX0_becomeLike 35 = .ok (.aload_n 0, 1) := by decide +kernel
theorem dX0_becomeLike_36 : decode cX0_becomeLike 36 = .ok (.getfield 18, 3) := by decide +kernel
theorem dX0_becomeLike_39 : decode cX0_becomeLike 39 = .ok (.iconst 0, 1) := by decide +kernel
theorem dX0_becomeLike_40 : decode cX0_becomeLike 40 = .ok (.bipush 64, 2) := by decide +kernel
theorem dX0_becomeLike_42 : decode cX0_becomeLike 42 = .ok (.invokestatic 51, 3) := by decide +kernel
theorem dX0_becomeLike_45 : decode cX0_becomeLike 45 = .ok (.aload_n 1, 1) := by decide +kernel
theorem dX0_becomeLike_46 : decode cX0_becomeLike 46 = .ok (.getfield 21, 3) := by decide +kernel
theorem dX0_becomeLike_49 : decode cX0_becomeLike 49 = .ok (.iconst 0, 1) := by decide +kernel
theorem dX0_becomeLike_50 : decode cX0_becomeLike 50 = .ok (.aload_n 0, 1) := by decide +kernel
theorem dX0_becomeLike_51 : decode cX0_becomeLike 51 = .ok (.getfield 21, 3) := by decide +kernel
theorem dX0_becomeLike_54 : decode cX0_becomeLike 54 = .ok (.iconst 0, 1) := by decide +kernel
theorem dX0_becomeLike_55 : decode cX0_becomeLike 55 = .ok (.bipush 64, 2) := by decide +kernel
theorem dX0_becomeLike_57 : decode cX0_becomeLike 57 = .ok (.invokestatic 51, 3) := by decide +kernel
theorem dX0_becomeLike_60 : decode cX0_becomeLike 60 = .ok (.aload_n 1, 1) := by decide +kernel
theorem dX0_becomeLike_61 : decode cX0_becomeLike 61 = .ok (.getfield 24, 3) := by decide +kernel
theorem dX0_becomeLike_64 : decode cX0_becomeLike 64 = .ok (.iconst 0, 1) := by decide +kernel
theorem dX0_becomeLike_65 : decode cX0_becomeLike 65 = .ok (.aload_n 0, 1) := by decide +kernel
theorem dX0_becomeLike_66 : decode cX0_becomeLike 66 = .ok (.getfield 24, 3) := by decide +kernel
theorem dX0_becomeLike_69 : decode cX0_becomeLike 69 = .ok (.iconst 0, 1) := by decide +kernel
theorem dX0_becomeLike_70 : decode cX0_becomeLike 70 = .ok (.bipush 64, 2) := by decide +kernel
theorem dX0_becomeLike_72 : decode cX0_becomeLike 72 = .ok (.invokestatic 51, 3) := by decide +kernel
theorem dX0_becomeLike_75 : decode cX0_becomeLike 75 = .ok (.aload_n 1, 1) := by decide +kernel
theorem dX0_becomeLike_76 : decode cX0_becomeLike 76 = .ok (.getfield 27, 3) := by decide +kernel
theorem dX0_becomeLike_79 : decode cX0_becomeLike 79 = .ok (.iconst 0, 1) := by decide +kernel
theorem dX0_becomeLike_80 : decode cX0_becomeLike 80 = .ok (.aload_n 0, 1) := by decide +kernel
theorem dX0_becomeLike_81 : decode cX0_becomeLike 81 = .ok (.getfield 27, 3) := by decide +kernel
theorem dX0_becomeLike_84 : decode cX0_becomeLike 84 = .ok (.iconst 0, 1) := by decide +kernel
theorem dX0_becomeLike_85 : decode cX0_becomeLike 85 = .ok (.bipush 64, 2) := by decide +kernel
theorem dX0_becomeLike_87 : decode cX0_becomeLike 87 = .ok (.invokestatic 51, 3) := by decide +kernel
theorem dX0_becomeLike_90 : decode cX0_becomeLike 90 = .ok (.aload_n 1, 1) := by decide +kernel
theorem dX0_becomeLike_91 : decode cX0_becomeLike 91 = .ok (.getfield 30, 3) := by decide +kernel
theorem dX0_becomeLike_94 : decode cX0_becomeLike 94 = .ok (.iconst 0, 1) := by decide +kernel
theorem dX0_becomeLike_95 : decode cX0_becomeLike 95 = .ok (.aload_n 0, 1) := by decide +kernel
theorem dX0_becomeLike_96 : decode cX0_becomeLike 96 = .ok (.getfield 30, 3) := by decide +kernel
theorem dX0_becomeLike_99 : decode cX0_becomeLike 99 = .ok (.iconst 0, 1) := by decide +kernel
theorem dX0_becomeLike_100 : decode cX0_becomeLike 100 = .ok (.bipush 12, 2) := by decide +kernel
theorem dX0_becomeLike_102 : decode cX0_becomeLike 102 = .ok (.invokestatic 51, 3) := by decide +kernel
theorem dX0_becomeLike_105 : decode cX0_becomeLike 105 = .ok (.aload_n 0, 1) := by decide +kernel
theorem dX0_becomeLike_106 : decode cX0_becomeLike 106 = .ok (.aload_n 1, 1) := by decide +kernel
theorem dX0_becomeLike_107 : decode cX0_becomeLike 107 = .ok (.getfield 57, 3) := by decide +kernel
theorem dX0_becomeLike_110 : decode cX0_becomeLike 110 = .ok (.putfield 57, 3) := by decide +kernel
theorem dX0_becomeLike_113 : decode cX0_becomeLike 113 = .ok (.aload_n 0, 1) := by decide +kernel
theorem dX0_becomeLike_114 : decode cX0_becomeLike 114 = .ok (.aload_n 1, 1) := by decide +kernel
theorem dX0_becomeLike_115 : decode cX0_becomeLike 115 = .ok (.getfield 61, 3) := by decide +kernel
theorem dX0_becomeLike_118 : decode cX0_becomeLike 118 = .ok (.putfield 61, 3) := by decide +kernel
theorem dX0_becomeLike_121 : decode cX0_becomeLike 121 = .ok (.aload_n 0, 1) := by decide +kernel
theorem dX0_becomeLike_122 : decode cX0_becomeLike 122 = .ok (.aload_n 1, 1) := by decide +kernel
theorem dX0_becomeLike_123 : decode cX0_becomeLike 123 = .ok (.getfield 64, 3) := by decide +kernel
theorem dX0_becomeLike_126 : decode cX0_becomeLike 126 = .ok (.putfield 64, 3) := by decide +kernel
theorem dX0_becomeLike_129 : decode cX0_becomeLike 129 = .ok (.aload_n 0, 1) := by decide +kernel
theorem dX0_becomeLike_130 : decode cX0_becomeLike 130 = .ok (.aload_n 1, 1) := by decide +kernel
theorem dX0_becomeLike_131 : decode cX0_becomeLike 131 = .ok (.getfield 67, 3) := by decide +kernel
theorem dX0_becomeLike_134 : decode cX0_becomeLike 134 = .ok (.putfield 67, 3) := by decide +kernel
theorem dX0_becomeLike_137 : decode cX0_becomeLike 137 = .ok (.return_, 1) := by decide +kernel
set_option maxRecDepth 20000 in
theorem ggX0_goHours_X0_goOneHour : GoodIn wsX0_goHours wsX0_goOneHour := goodIn_r _ [6, 7, 8, 9, 10, 5, 11, 12, 13, 14, 15, 16, 17, 18, 19, 20, 21, 22, 23, 24, 25, 26, 27, 28, 29, 30, 31, 32, 33, 34, 35, 36, 37, 38, 39, 40, 41, 42, 43, 44, 45, 46, 47, 48, 49, 50, 51, 52, 53, 54, 55, 56, 57, 58, 59, 60, 61, 62, 63, 64, 65, 66, 67, 68, 69, 70, 71, 72, 1, 73, 74, 75, 76, 77, 78, 79, 80, 81, 82, 83, 84, 85, 86, 87] (by decide +kernel) (by decide +kernel)
set_option maxRecDepth 20000 in
theorem gX0_goHours_X0_goOneHour : GoodIn wsX0_goHours (wsV RX0 70 RX0 yX0_goOneHour wsX0_goOneHour) := goodIn_app (goodIn_of _ (by decide +kernel)) ggX0_goHours_X0_goOneHour
theorem dX0_goHours_0 : decode cX0_goHours 0 = .ok (.aload_n 0, 1) := by decide +kernel
theorem dX0_goHours_1 : decode cX0_goHours 1 = .ok (.getfield 67, 3) := by decide +kernel
theorem dX0_goHours_4 : decode cX0_goHours 4 = .ok (.istore_n 2, 1) := by decide +kernel
theorem dX0_goHours_5 : decode cX0_goHours 5 = .ok (.iconst 0, 1) := by decide +kernel
theorem dX0_goHours_6 : decode cX0_goHours 6 = .ok (.istore_n 3, 1) := by decide +kernel
theorem dX0_goHours_7 : decode cX0_goHours 7 = .ok (.iload_n 3, 1) := by decide +kernel
theorem dX0_goHours_8 : decode cX0_goHours 8 = .ok (.iload_n 1, 1) := by decide +kernel
theorem dX0_goHours_9 : decode cX0_goHours 9 = .ok (.if_icmp .ge 13, 3) := by decide +kernel
theorem dX0_goHours_12 : decode cX0_goHours 12 = .ok (.aload_n 0, 1) := by decide +kernel
theorem dX0_goHours_13 : decode cX0_goHours 13 = .ok (.invokevirtual 70, 3) := by decide +kernel
theorem dX0_goHours_16 : decode cX0_goHours 16 = .ok (.iinc 3 1, 3) := by decide +kernel
theorem dX0_goHours_19 : decode cX0_goHours 19 = .ok (.goto (-12), 3) := by decide +kernel
theorem dX0_goHours_22 : decode cX0_goHours 22 = .ok (.aload_n 0, 1) := by decide +kernel
theorem dX0_goHours_23 : decode cX0_goHours 23 = .ok (.getfield 67, 3) := by decide +kernel
theorem dX0_goHours_26 : decode cX0_goHours 26 = .ok (.iload_n 2, 1) := by decide +kernel
theorem dX0_goHours_27 : decode cX0_goHours 27 = .ok (.isub, 1) := by decide +kernel
theorem dX0_goHours_28 : decode cX0_goHours 28 = .ok (.ireturn, 1) := by decide +kernel
set_option maxRecDepth 20000 in
theorem ggX0_goOneHour_X0_letRainFall : GoodIn wsX0_goOneHour wsX0_letRainFall := goodIn_r _ [6, 7, 1, 8, 9, 10, 11, 12, 69, 70, 71, 72, 73, 74, 75, 76, 77, 78, 79, 80, 81, 82, 83] (by decide +kernel) (by decide +kernel)
set_option maxRecDepth 20000 in
theorem gX0_goOneHour_X0_letRainFall : GoodIn wsX0_goOneHour (wsV RX0 73 RX0 yX0_letRainFall wsX0_letRainFall) := goodIn_app (goodIn_of _ (by decide +kernel)) ggX0_goOneHour_X0_letRainFall
set_option maxRecDepth 20000 in
theorem ggX0_goOneHour_X0_letWaterRun : GoodIn wsX0_goOneHour wsX0_letWaterRun := goodIn_r _ [16, 17, 18, 8, 19, 20, 21, 22, 5, 23, 24, 25, 26, 27, 28, 29, 30, 31, 32, 33, 34, 35, 36, 37, 38, 39, 40, 41, 42, 43, 44, 45, 46, 47, 48, 49, 50, 69, 70, 71, 72, 73, 74, 75, 76, 77, 78, 79, 80, 81, 82, 83] (by decide +kernel) (by decide +kernel)
set_option maxRecDepth 20000 in
theorem gX0_goOneHour_X0_letWaterRun : GoodIn wsX0_goOneHour (wsV RX0 76 RX0 yX0_letWaterRun wsX0_letWaterRun) := goodIn_app (goodIn_of _ (by decide +kernel)) ggX0_goOneHour_X0_letWaterRun
set_option maxRecDepth 20000 in
theorem ggX0_goOneHour_X0_wearDams : GoodIn wsX0_goOneHour wsX0_wearDams := goodIn_r _ [54, 19, 8, 55, 56, 69, 70, 71, 72, 73, 74, 75, 76, 77, 78, 79, 80, 81, 82, 83] (by decide +kernel) (by decide +kernel)
set_option maxRecDepth 20000 in
theorem gX0_goOneHour_X0_wearDams : GoodIn wsX0_goOneHour (wsV RX0 79 RX0 yX0_wearDams wsX0_wearDams) := goodIn_app (goodIn_of _ (by decide +kernel)) ggX0_goOneHour_X0_wearDams
set_option maxRecDepth 20000 in
theorem ggX0_goOneHour_X0_drainCells : GoodIn wsX0_goOneHour wsX0_drainCells := goodIn_r _ [60, 61, 8, 44, 45, 27, 46, 62, 69, 70, 71, 72, 73, 74, 75, 76, 77, 78, 79, 80, 81, 82, 83] (by decide +kernel) (by decide +kernel)
set_option maxRecDepth 20000 in
theorem gX0_goOneHour_X0_drainCells : GoodIn wsX0_goOneHour (wsV RX0 82 RX0 yX0_drainCells wsX0_drainCells) := goodIn_app (goodIn_of _ (by decide +kernel)) ggX0_goOneHour_X0_drainCells
set_option maxRecDepth 20000 in
theorem ggX0_goOneHour_X0_leaveTowns : GoodIn wsX0_goOneHour wsX0_leaveTowns := goodIn_r _ [66, 8, 67, 44, 45, 27, 46, 68, 69, 70, 71, 72, 73, 74, 75, 76, 77, 78, 79, 80, 81, 82, 83] (by decide +kernel) (by decide +kernel)
set_option maxRecDepth 20000 in
theorem gX0_goOneHour_X0_leaveTowns : GoodIn wsX0_goOneHour (wsV RX0 85 RX0 yX0_leaveTowns wsX0_leaveTowns) := goodIn_app (goodIn_of _ (by decide +kernel)) ggX0_goOneHour_X0_leaveTowns
theorem dX0_goOneHour_0 : decode cX0_goOneHour 0 = .ok (.aload_n 0, 1) := by decide +kernel
theorem dX0_goOneHour_1 : decode cX0_goOneHour 1 = .ok (.invokevirtual 73, 3) := by decide +kernel
theorem dX0_goOneHour_4 : decode cX0_goOneHour 4 = .ok (.aload_n 0, 1) := by decide +kernel
theorem dX0_goOneHour_5 : decode cX0_goOneHour 5 = .ok (.invokevirtual 76, 3) := by decide +kernel
theorem dX0_goOneHour_8 : decode cX0_goOneHour 8 = .ok (.aload_n 0, 1) := by decide +kernel
theorem dX0_goOneHour_9 : decode cX0_goOneHour 9 = .ok (.invokevirtual 79, 3) := by decide +kernel
theorem dX0_goOneHour_12 : decode cX0_goOneHour 12 = .ok (.aload_n 0, 1) := by decide +kernel
theorem dX0_goOneHour_13 : decode cX0_goOneHour 13 = .ok (.invokevirtual 82, 3) := by decide +kernel
theorem dX0_goOneHour_16 : decode cX0_goOneHour 16 = .ok (.aload_n 0, 1) := by decide +kernel
theorem dX0_goOneHour_17 : decode cX0_goOneHour 17 = .ok (.invokevirtual 85, 3) := by decide +kernel
theorem dX0_goOneHour_20 : decode cX0_goOneHour 20 = .ok (.aload_n 0, 1) := by decide +kernel
theorem dX0_goOneHour_21 : decode cX0_goOneHour 21 = .ok (.dup, 1) := by decide +kernel
theorem dX0_goOneHour_22 : decode cX0_goOneHour 22 = .ok (.getfield 57, 3) := by decide +kernel
theorem dX0_goOneHour_25 : decode cX0_goOneHour 25 = .ok (.iconst 1, 1) := by decide +kernel
theorem dX0_goOneHour_26 : decode cX0_goOneHour 26 = .ok (.iadd, 1) := by decide +kernel
theorem dX0_goOneHour_27 : decode cX0_goOneHour 27 = .ok (.putfield 57, 3) := by decide +kernel
theorem dX0_goOneHour_30 : decode cX0_goOneHour 30 = .ok (.return_, 1) := by decide +kernel
set_option maxRecDepth 20000 in
theorem ggX0_letRainFall_J9_floorMod_7cf53 : GoodIn wsX0_letRainFall wsJ9_floorMod_7cf53 := goodIn_r _ [7] (by decide +kernel) (by decide +kernel)
set_option maxRecDepth 20000 in
theorem gX0_letRainFall_J9_floorMod_7cf53 : GoodIn wsX0_letRainFall (va_wsS RX0 88 yJ9_floorMod_7cf53 wsJ9_floorMod_7cf53) := goodIn_app (goodIn_of _ (by decide +kernel)) ggX0_letRainFall_J9_floorMod_7cf53
theorem dX0_letRainFall_0 : decode cX0_letRainFall 0 = .ok (.aload_n 0, 1) := by decide +kernel
theorem dX0_letRainFall_1 : decode cX0_letRainFall 1 = .ok (.getfield 30, 3) := by decide +kernel
theorem dX0_letRainFall_4 : decode cX0_letRainFall 4 = .ok (.aload_n 0, 1) := by decide +kernel
theorem dX0_letRainFall_5 : decode cX0_letRainFall 5 = .ok (.getfield 57, 3) := by decide +kernel
theorem dX0_letRainFall_8 : decode cX0_letRainFall 8 = .ok (.bipush 12, 2) := by decide +kernel
theorem dX0_letRainFall_10 : decode cX0_letRainFall 10 = .ok (.invokestatic 88, 3) := by decide +kernel
theorem dX0_letRainFall_13 : decode cX0_letRainFall 13 = .ok (.iaload, 1) := by decide +kernel
theorem dX0_letRainFall_14 : decode cX0_letRainFall 14 = .ok (.istore_n 1, 1) := by decide +kernel
theorem dX0_letRainFall_15 : decode cX0_letRainFall 15 = .ok (.iconst 0, 1) := by decide +kernel
theorem dX0_letRainFall_16 : decode cX0_letRainFall 16 = .ok (.istore_n 2, 1) := by decide +kernel
theorem dX0_letRainFall_17 : decode cX0_letRainFall 17 = .ok (.iload_n 2, 1) := by decide +kernel
theorem dX0_letRainFall_18 : decode cX0_letRainFall 18 = .ok (.bipush 64, 2) := by decide +kernel
theorem dX0_letRainFall_20 : decode cX0_letRainFall 20 = .ok (.if_icmp .ge 19, 3) := by decide +kernel
theorem dX0_letRainFall_23 : decode cX0_letRainFall 23 = .ok (.aload_n 0, 1) := by decide +kernel
theorem dX0_letRainFall_24 : decode cX0_letRainFall 24 = .ok (.getfield 15, 3) := by decide +kernel
theorem dX0_letRainFall_27 : decode cX0_letRainFall 27 = .ok (.iload_n 2, 1) := by decide +kernel
theorem dX0_letRainFall_28 : decode cX0_letRainFall 28 = .ok (.dup2, 1) := by decide +kernel
theorem dX0_letRainFall_29 : decode cX0_letRainFall 29 = .ok (.iaload, 1) := by decide +kernel
theorem dX0_letRainFall_30 : decode cX0_letRainFall 30 = .ok (.iload_n 1, 1) := by decide +kernel
theorem dX0_letRainFall_31 : decode cX0_letRainFall 31 = .ok (.iadd, 1) := by decide +kernel
theorem dX0_letRainFall_32 : decode cX0_letRainFall 32 = .ok (.iastore, 1) := by decide +kernel
theorem dX0_letRainFall_33 : decode cX0_letRainFall 33 = .ok (.iinc 2 1, 3) := by decide +kernel
theorem dX0_letRainFall_36 : decode cX0_letRainFall 36 = .ok (.goto (-19), 3) := by decide +kernel
theorem dX0_letRainFall_39 : decode cX0_letRainFall 39 = .ok (.return_, 1) := by decide +kernel
set_option maxRecDepth 20000 in
theorem ggX0_letWaterRun_X0_crestOf : GoodIn wsX0_letWaterRun wsX0_crestOf := goodIn_r _ [9, 10, 4, 3, 11, 12, 13, 14, 37, 38, 39, 40, 41, 42, 43, 44, 45, 46, 47, 48, 49, 50, 51] (by decide +kernel) (by decide +kernel)
set_option maxRecDepth 20000 in
theorem gX0_letWaterRun_X0_crestOf : GoodIn wsX0_letWaterRun (wsV RX0 94 RX0 yX0_crestOf wsX0_crestOf) := goodIn_app (goodIn_of _ (by decide +kernel)) ggX0_letWaterRun_X0_crestOf
set_option maxRecDepth 20000 in
theorem ggX0_letWaterRun_J7_fill_53178 : GoodIn wsX0_letWaterRun wsJ7_fill_53178 := goodIn_r _ [18] (by decide +kernel) (by decide +kernel)
set_option maxRecDepth 20000 in
theorem gX0_letWaterRun_J7_fill_53178 : GoodIn wsX0_letWaterRun (va_wsS RX0 45 yJ7_fill_53178 wsJ7_fill_53178) := goodIn_app (goodIn_of _ (by decide +kernel)) ggX0_letWaterRun_J7_fill_53178
set_option maxRecDepth 20000 in
theorem ggX0_letWaterRun_X0_lowestNeighbour : GoodIn wsX0_letWaterRun wsX0_lowestNeighbour := goodIn_r _ [22, 1, 23, 24, 8, 25, 37, 38, 39, 40, 41, 42, 43, 44, 45, 46, 47, 48, 49, 50, 51] (by decide +kernel) (by decide +kernel)
set_option maxRecDepth 20000 in
theorem gX0_letWaterRun_X0_lowestNeighbour : GoodIn wsX0_letWaterRun (wsV RX0 98 RX0 yX0_lowestNeighbour wsX0_lowestNeighbour) := goodIn_app (goodIn_of _ (by decide +kernel)) ggX0_letWaterRun_X0_lowestNeighbour
set_option maxRecDepth 20000 in
theorem ggX0_letWaterRun_X0_give : GoodIn wsX0_letWaterRun wsX0_give := goodIn_r _ [29, 1, 3, 4, 30, 31, 13, 32, 2, 33, 34, 35, 8, 36, 10, 37, 38, 39, 40, 41, 42, 43, 44, 45, 46, 47, 48, 49, 50, 51] (by decide +kernel) (by decide +kernel)
set_option maxRecDepth 20000 in
theorem gX0_letWaterRun_X0_give : GoodIn wsX0_letWaterRun (wsV RX0 101 RX0 yX0_give wsX0_give) := goodIn_app (goodIn_of _ (by decide +kernel)) ggX0_letWaterRun_X0_give
theorem dX0_letWaterRun_0 : decode cX0_letWaterRun 0 = .ok (.iconst 0, 1) := by decide +kernel
theorem dX0_letWaterRun_1 : decode cX0_letWaterRun 1 = .ok (.istore_n 1, 1) := by decide +kernel
theorem dX0_letWaterRun_2 : decode cX0_letWaterRun 2 = .ok (.iload_n 1, 1) := by decide +kernel
theorem dX0_letWaterRun_3 : decode cX0_letWaterRun 3 = .ok (.bipush 64, 2) := by decide +kernel
theorem dX0_letWaterRun_5 : decode cX0_letWaterRun 5 = .ok (.if_icmp .ge 20, 3) := by decide +kernel
theorem dX0_letWaterRun_8 : decode cX0_letWaterRun 8 = .ok (.aload_n 0, 1) := by decide +kernel
theorem dX0_letWaterRun_9 : decode cX0_letWaterRun 9 = .ok (.getfield 33, 3) := by decide +kernel
theorem dX0_letWaterRun_12 : decode cX0_letWaterRun 12 = .ok (.iload_n 1, 1) := by decide +kernel
theorem dX0_letWaterRun_13 : decode cX0_letWaterRun 13 = .ok (.aload_n 0, 1) := by decide +kernel
theorem dX0_letWaterRun_14 : decode cX0_letWaterRun 14 = .ok (.iload_n 1, 1) := by decide +kernel
theorem dX0_letWaterRun_15 : decode cX0_letWaterRun 15 = .ok (.invokevirtual 94, 3) := by decide +kernel
theorem dX0_letWaterRun_18 : decode cX0_letWaterRun 18 = .ok (.iastore, 1) := by decide +kernel
theorem dX0_letWaterRun_19 : decode cX0_letWaterRun 19 = .ok (.iinc 1 1, 3) := by decide +kernel
theorem dX0_letWaterRun_22 : decode cX0_letWaterRun 22 = .ok (.goto (-20), 3) := by decide +kernel
theorem dX0_letWaterRun_25 : decode cX0_letWaterRun 25 = .ok (.aload_n 0, 1) := by decide +kernel
theorem dX0_letWaterRun_26 : decode cX0_letWaterRun 26 = .ok (.getfield 36, 3) := by decide +kernel
theorem dX0_letWaterRun_29 : decode cX0_letWaterRun 29 = .ok (.iconst 0, 1) := by decide +kernel
theorem dX0_letWaterRun_30 : decode cX0_letWaterRun 30 = .ok (.invokestatic 45, 3) := by decide +kernel
theorem dX0_letWaterRun_33 : decode cX0_letWaterRun 33 = .ok (.iconst 0, 1) := by decide +kernel
theorem dX0_letWaterRun_34 : decode cX0_letWaterRun 34 = .ok (.istore_n 1, 1) := by decide +kernel
theorem dX0_letWaterRun_35 : decode cX0_letWaterRun 35 = .ok (.iload_n 1, 1) := by decide +kernel
theorem dX0_letWaterRun_36 : decode cX0_letWaterRun 36 = .ok (.bipush 64, 2) := by decide +kernel
theorem dX0_letWaterRun_38 : decode cX0_letWaterRun 38 = .ok (.if_icmp .ge 34, 3) := by decide +kernel
theorem dX0_letWaterRun_41 : decode cX0_letWaterRun 41 = .ok (.aload_n 0, 1) := by decide +kernel
theorem dX0_letWaterRun_42 : decode cX0_letWaterRun 42 = .ok (.getfield 15, 3) := by decide +kernel
theorem dX0_letWaterRun_45 : decode cX0_letWaterRun 45 = .ok (.iload_n 1, 1) := by decide +kernel
theorem dX0_letWaterRun_46 : decode cX0_letWaterRun 46 = .ok (.iaload, 1) := by decide +kernel
theorem dX0_letWaterRun_47 : decode cX0_letWaterRun 47 = .ok (.aload_n 0, 1) := by decide +kernel
theorem dX0_letWaterRun_48 : decode cX0_letWaterRun 48 = .ok (.getfield 18, 3) := by decide +kernel
theorem dX0_letWaterRun_51 : decode cX0_letWaterRun 51 = .ok (.iload_n 1, 1) := by decide +kernel
theorem dX0_letWaterRun_52 : decode cX0_letWaterRun 52 = .ok (.iaload, 1) := by decide +kernel
theorem dX0_letWaterRun_53 : decode cX0_letWaterRun 53 = .ok (.if_icmp .le 13, 3) := by decide +kernel
theorem dX0_letWaterRun_56 : decode cX0_letWaterRun 56 = .ok (.aload_n 0, 1) := by decide +kernel
theorem dX0_letWaterRun_57 : decode cX0_letWaterRun 57 = .ok (.iload_n 1, 1) := by decide +kernel
theorem dX0_letWaterRun_58 : decode cX0_letWaterRun 58 = .ok (.aload_n 0, 1) := by decide +kernel
theorem dX0_letWaterRun_59 : decode cX0_letWaterRun 59 = .ok (.iload_n 1, 1) := by decide +kernel
theorem dX0_letWaterRun_60 : decode cX0_letWaterRun 60 = .ok (.invokevirtual 98, 3) := by decide +kernel
theorem dX0_letWaterRun_63 : decode cX0_letWaterRun 63 = .ok (.invokevirtual 101, 3) := by decide +kernel
theorem dX0_letWaterRun_66 : decode cX0_letWaterRun 66 = .ok (.iinc 1 1, 3) := by decide +kernel
theorem dX0_letWaterRun_69 : decode cX0_letWaterRun 69 = .ok (.goto (-34), 3) := by decide +kernel
theorem dX0_letWaterRun_72 : decode cX0_letWaterRun 72 = .ok (.iconst 0, 1) := by decide +kernel
theorem dX0_letWaterRun_73 : decode cX0_letWaterRun 73 = .ok (.istore_n 1, 1) := by decide +kernel
theorem dX0_letWaterRun_74 : decode cX0_letWaterRun 74 = .ok (.iload_n 1, 1) := by decide +kernel
theorem dX0_letWaterRun_75 : decode cX0_letWaterRun 75 = .ok (.bipush 64, 2) := by decide +kernel
theorem dX0_letWaterRun_77 : decode cX0_letWaterRun 77 = .ok (.if_icmp .ge 24, 3) := by decide +kernel
theorem dX0_letWaterRun_80 : decode cX0_letWaterRun 80 = .ok (.aload_n 0, 1) := by decide +kernel
theorem dX0_letWaterRun_81 : decode cX0_letWaterRun 81 = .ok (.getfield 15, 3) := by decide +kernel
theorem dX0_letWaterRun_84 : decode cX0_letWaterRun 84 = .ok (.iload_n 1, 1) := by decide +kernel
theorem dX0_letWaterRun_85 : decode cX0_letWaterRun 85 = .ok (.dup2, 1) := by decide +kernel
theorem dX0_letWaterRun_86 : decode cX0_letWaterRun 86 = .ok (.iaload, 1) := by decide +kernel
theorem dX0_letWaterRun_87 : decode cX0_letWaterRun 87 = .ok (.aload_n 0, 1) := by decide +kernel
theorem dX0_letWaterRun_88 : decode cX0_letWaterRun 88 = .ok (.getfield 36, 3) := by decide +kernel
theorem dX0_letWaterRun_91 : decode cX0_letWaterRun 91 = .ok (.iload_n 1, 1) := by decide +kernel
theorem dX0_letWaterRun_92 : decode cX0_letWaterRun 92 = .ok (.iaload, 1) := by decide +kernel
theorem dX0_letWaterRun_93 : decode cX0_letWaterRun 93 = .ok (.iadd, 1) := by decide +kernel
theorem dX0_letWaterRun_94 : decode cX0_letWaterRun 94 = .ok (.iastore, 1) := by decide +kernel
theorem dX0_letWaterRun_95 : decode cX0_letWaterRun 95 = .ok (.iinc 1 1, 3) := by decide +kernel
theorem dX0_letWaterRun_98 : decode cX0_letWaterRun 98 = .ok (.goto (-24), 3) := by decide +kernel
theorem dX0_letWaterRun_101 : decode cX0_letWaterRun 101 = .ok (.return_, 1) := by decide +kernel
set_option maxRecDepth 20000 in
theorem ggX0_give_X0_levelOf : GoodIn wsX0_give wsX0_levelOf := goodIn_r _ [13, 14, 2, 15, 16, 17, 18, 19, 20, 21, 22, 23, 24, 25, 26, 27, 28, 29] (by decide +kernel) (by decide +kernel)
set_option maxRecDepth 20000 in
theorem gX0_give_X0_levelOf : GoodIn wsX0_give (wsV RX0 105 RX0 yX0_levelOf wsX0_levelOf) := goodIn_app (goodIn_of _ (by decide +kernel)) ggX0_give_X0_levelOf
theorem dX0_give_0 : decode cX0_give 0 = .ok (.iload_n 2, 1) := by decide +kernel
theorem dX0_give_1 : decode cX0_give 1 = .ok (.ifCond .ge 4, 3) := by decide +kernel
theorem dX0_give_4 : decode cX0_give 4 = .ok (.return_, 1) := by decide +kernel
theorem dX0_give_5 : decode cX0_give 5 = .ok (.aload_n 0, 1) := by decide +kernel
theorem dX0_give_6 : decode cX0_give 6 = .ok (.iload_n 1, 1) := by decide +kernel
theorem dX0_give_7 : decode cX0_give 7 = .ok (.invokevirtual 105, 3) := by decide +kernel
theorem dX0_give_10 : decode cX0_give 10 = .ok (.aload_n 0, 1) := by decide +kernel
theorem dX0_give_11 : decode cX0_give 11 = .ok (.getfield 33, 3) := by decide +kernel
theorem dX0_give_14 : decode cX0_give 14 = .ok (.iload_n 2, 1) := by decide +kernel
theorem dX0_give_15 : decode cX0_give 15 = .ok (.iaload, 1) := by decide +kernel
theorem dX0_give_16 : decode cX0_give 16 = .ok (.isub, 1) := by decide +kernel
theorem dX0_give_17 : decode cX0_give 17 = .ok (.istore_n 3, 1) := by decide +kernel
theorem dX0_give_18 : decode cX0_give 18 = .ok (.iload_n 3, 1) := by decide +kernel
theorem dX0_give_19 : decode cX0_give 19 = .ok (.ifCond .le 46, 3) := by decide +kernel
theorem dX0_give_22 : decode cX0_give 22 = .ok (.iload_n 3, 1) := by decide +kernel
theorem dX0_give_23 : decode cX0_give 23 = .ok (.iconst 2, 1) := by decide +kernel
theorem dX0_give_24 : decode cX0_give 24 = .ok (.idiv, 1) := by decide +kernel
theorem dX0_give_25 : decode cX0_give 25 = .ok (.aload_n 0, 1) := by decide +kernel
theorem dX0_give_26 : decode cX0_give 26 = .ok (.getfield 15, 3) := by decide +kernel
theorem dX0_give_29 : decode cX0_give 29 = .ok (.iload_n 1, 1) := by decide +kernel
theorem dX0_give_30 : decode cX0_give 30 = .ok (.iaload, 1) := by decide +kernel
theorem dX0_give_31 : decode cX0_give 31 = .ok (.aload_n 0, 1) := by decide +kernel
theorem dX0_give_32 : decode cX0_give 32 = .ok (.getfield 18, 3) := by decide +kernel
theorem dX0_give_35 : decode cX0_give 35 = .ok (.iload_n 1, 1) := by decide +kernel
theorem dX0_give_36 : decode cX0_give 36 = .ok (.iaload, 1) := by decide +kernel
theorem dX0_give_37 : decode cX0_give 37 = .ok (.isub, 1) := by decide +kernel
theorem dX0_give_38 : decode cX0_give 38 = .ok (.invokestatic 108, 3) := by decide +kernel
theorem dX0_give_41 : decode cX0_give 41 = .ok (.istore 4, 2) := by decide +kernel
theorem dX0_give_43 : decode cX0_give 43 = .ok (.aload_n 0, 1) := by decide +kernel
theorem dX0_give_44 : decode cX0_give 44 = .ok (.getfield 36, 3) := by decide +kernel
theorem dX0_give_47 : decode cX0_give 47 = .ok (.iload_n 1, 1) := by decide +kernel
theorem dX0_give_48 : decode cX0_give 48 = .ok (.dup2, 1) := by decide +kernel
theorem dX0_give_49 : decode cX0_give 49 = .ok (.iaload, 1) := by decide +kernel
theorem dX0_give_50 : decode cX0_give 50 = .ok (.iload 4, 2) := by decide +kernel
theorem dX0_give_52 : decode cX0_give 52 = .ok (.isub, 1) := by decide +kernel
theorem dX0_give_53 : decode cX0_give 53 = .ok (.iastore, 1) := by decide +kernel
theorem dX0_give_54 : decode cX0_give 54 = .ok (.aload_n 0, 1) := by decide +kernel
theorem dX0_give_55 : decode cX0_give 55 = .ok (.getfield 36, 3) := by decide +kernel
theorem dX0_give_58 : decode cX0_give 58 = .ok (.iload_n 2, 1) := by decide +kernel
theorem dX0_give_59 : decode cX0_give 59 = .ok (.dup2, 1) := by decide +kernel
theorem dX0_give_60 : decode cX0_give 60 = .ok (.iaload, 1) := by decide +kernel
theorem dX0_give_61 : decode cX0_give 61 = .ok (.iload 4, 2) := by decide +kernel
theorem dX0_give_63 : decode cX0_give 63 = .ok (.iadd, 1) := by decide +kernel
theorem dX0_give_64 : decode cX0_give 64 = .ok (.iastore, 1) := by decide +kernel
theorem dX0_give_65 : decode cX0_give 65 = .ok (.return_, 1) := by decide +kernel
set_option maxRecDepth 20000 in
theorem ggX0_lowestNeighbour_X0_neighbourOf : GoodIn wsX0_lowestNeighbour wsX0_neighbourOf := goodIn_r _ [5] (by decide +kernel) (by decide +kernel)
set_option maxRecDepth 20000 in
theorem gX0_lowestNeighbour_X0_neighbourOf : GoodIn wsX0_lowestNeighbour (va_wsS RX0 111 yX0_neighbourOf wsX0_neighbourOf) := goodIn_app (goodIn_of _ (by decide +kernel)) ggX0_lowestNeighbour_X0_neighbourOf
theorem dX0_lowestNeighbour_0 : decode cX0_lowestNeighbour 0 = .ok (.iconst (-1), 1) := by decide +kernel
theorem dX0_lowestNeighbour_1 : decode cX0_lowestNeighbour 1 = .ok (.istore_n 2, 1) := by decide +kernel
theorem dX0_lowestNeighbour_2 : decode cX0_lowestNeighbour 2 = .ok (.iconst 0, 1) := by decide +kernel
theorem dX0_lowestNeighbour_3 : decode cX0_lowestNeighbour 3 = .ok (.istore_n 3, 1) := by decide +kernel
theorem dX0_lowestNeighbour_4 : decode cX0_lowestNeighbour 4 = .ok (.iload_n 3, 1) := by decide +kernel
theorem dX0_lowestNeighbour_5 : decode cX0_lowestNeighbour 5 = .ok (.iconst 4, 1) := by decide +kernel
theorem dX0_lowestNeighbour_6 : decode cX0_lowestNeighbour 6 = .ok (.if_icmp .ge 44, 3) := by decide +kernel
theorem dX0_lowestNeighbour_9 : decode cX0_lowestNeighbour 9 = .ok (.iload_n 1, 1) := by decide +kernel
theorem dX0_lowestNeighbour_10 : decode cX0_lowestNeighbour 10 = .ok (.iload_n 3, 1) := by decide +kernel
theorem dX0_lowestNeighbour_11 : decode cX0_lowestNeighbour 11 = .ok (.invokestatic 111, 3) := by decide +kernel
theorem dX0_lowestNeighbour_14 : decode cX0_lowestNeighbour 14 = .ok (.istore 4, 2) := by decide +kernel
theorem dX0_lowestNeighbour_16 : decode cX0_lowestNeighbour 16 = .ok (.iload 4, 2) := by decide +kernel
theorem dX0_lowestNeighbour_18 : decode cX0_lowestNeighbour 18 = .ok (.ifCond .lt 26, 3) := by decide +kernel
theorem dX0_lowestNeighbour_21 : decode cX0_lowestNeighbour 21 = .ok (.iload_n 2, 1) := by decide +kernel
theorem dX0_lowestNeighbour_22 : decode cX0_lowestNeighbour 22 = .ok (.ifCond .lt 19, 3) := by decide +kernel
theorem dX0_lowestNeighbour_25 : decode cX0_lowestNeighbour 25 = .ok (.aload_n 0, 1) := by decide +kernel
theorem dX0_lowestNeighbour_26 : decode cX0_lowestNeighbour 26 = .ok (.getfield 33, 3) := by decide +kernel
theorem dX0_lowestNeighbour_29 : decode cX0_lowestNeighbour 29 = .ok (.iload 4, 2) := by decide +kernel
theorem dX0_lowestNeighbour_31 : decode cX0_lowestNeighbour 31 = .ok (.iaload, 1) := by decide +kernel
theorem dX0_lowestNeighbour_32 : decode cX0_lowestNeighbour 32 = .ok (.aload_n 0, 1) := by decide +kernel
theorem dX0_lowestNeighbour_33 : decode cX0_lowestNeighbour 33 = .ok (.getfield 33, 3) := by decide +kernel
theorem dX0_lowestNeighbour_36 : decode cX0_lowestNeighbour 36 = .ok (.iload_n 2, 1) := by decide +kernel
theorem dX0_lowestNeighbour_37 : decode cX0_lowestNeighbour 37 = .ok (.iaload, 1) := by decide +kernel
theorem dX0_lowestNeighbour_38 : decode cX0_lowestNeighbour 38 = .ok (.if_icmp .ge 6, 3) := by decide +kernel
theorem dX0_lowestNeighbour_41 : decode cX0_lowestNeighbour 41 = .ok (.iload 4, 2) := by decide +kernel
theorem dX0_lowestNeighbour_43 : decode cX0_lowestNeighbour 43 = .ok (.istore_n 2, 1) := by decide +kernel
theorem dX0_lowestNeighbour_44 : decode cX0_lowestNeighbour 44 = .ok (.iinc 3 1, 3) := by decide +kernel
theorem dX0_lowestNeighbour_47 : decode cX0_lowestNeighbour 47 = .ok (.goto (-43), 3) := by decide +kernel
theorem dX0_lowestNeighbour_50 : decode cX0_lowestNeighbour 50 = .ok (.iload_n 2, 1) := by decide +kernel
theorem dX0_lowestNeighbour_51 : decode cX0_lowestNeighbour 51 = .ok (.ireturn, 1) := by decide +kernel
theorem dX0_wearDams_0 : decode cX0_wearDams 0 = .ok (.iconst 0, 1) := by decide +kernel
theorem dX0_wearDams_1 : decode cX0_wearDams 1 = .ok (.istore_n 1, 1) := by decide +kernel
theorem dX0_wearDams_2 : decode cX0_wearDams 2 = .ok (.iload_n 1, 1) := by decide +kernel
theorem dX0_wearDams_3 : decode cX0_wearDams 3 = .ok (.bipush 64, 2) := by decide +kernel
theorem dX0_wearDams_5 : decode cX0_wearDams 5 = .ok (.if_icmp .ge 78, 3) := by decide +kernel
theorem dX0_wearDams_8 : decode cX0_wearDams 8 = .ok (.aload_n 0, 1) := by decide +kernel
theorem dX0_wearDams_9 : decode cX0_wearDams 9 = .ok (.getfield 18, 3) := by decide +kernel
theorem dX0_wearDams_12 : decode cX0_wearDams 12 = .ok (.iload_n 1, 1) := by decide +kernel
theorem dX0_wearDams_13 : decode cX0_wearDams 13 = .ok (.iaload, 1) := by decide +kernel
theorem dX0_wearDams_14 : decode cX0_wearDams 14 = .ok (.ifCond .le 63, 3) := by decide +kernel
theorem dX0_wearDams_17 : decode cX0_wearDams 17 = .ok (.aload_n 0, 1) := by decide +kernel
theorem dX0_wearDams_18 : decode cX0_wearDams 18 = .ok (.getfield 15, 3) := by decide +kernel
theorem dX0_wearDams_21 : decode cX0_wearDams 21 = .ok (.iload_n 1, 1) := by decide +kernel
theorem dX0_wearDams_22 : decode cX0_wearDams 22 = .ok (.iaload, 1) := by decide +kernel
theorem dX0_wearDams_23 : decode cX0_wearDams 23 = .ok (.aload_n 0, 1) := by decide +kernel
theorem dX0_wearDams_24 : decode cX0_wearDams 24 = .ok (.getfield 18, 3) := by decide +kernel
theorem dX0_wearDams_27 : decode cX0_wearDams 27 = .ok (.iload_n 1, 1) := by decide +kernel
theorem dX0_wearDams_28 : decode cX0_wearDams 28 = .ok (.iaload, 1) := by decide +kernel
theorem dX0_wearDams_29 : decode cX0_wearDams 29 = .ok (.if_icmp .lt 48, 3) := by decide +kernel
theorem dX0_wearDams_32 : decode cX0_wearDams 32 = .ok (.aload_n 0, 1) := by decide +kernel
theorem dX0_wearDams_33 : decode cX0_wearDams 33 = .ok (.getfield 21, 3) := by decide +kernel
theorem dX0_wearDams_36 : decode cX0_wearDams 36 = .ok (.iload_n 1, 1) := by decide +kernel
theorem dX0_wearDams_37 : decode cX0_wearDams 37 = .ok (.dup2, 1) := by decide +kernel
theorem dX0_wearDams_38 : decode cX0_wearDams 38 = .ok (.iaload, 1) := by decide +kernel
theorem dX0_wearDams_39 : decode cX0_wearDams 39 = .ok (.iconst 1, 1) := by decide +kernel
theorem dX0_wearDams_40 : decode cX0_wearDams 40 = .ok (.iadd, 1) := by decide +kernel
theorem dX0_wearDams_41 : decode cX0_wearDams 41 = .ok (.iastore, 1) := by decide +kernel
theorem dX0_wearDams_42 : decode cX0_wearDams 42 = .ok (.aload_n 0, 1) := by decide +kernel
theorem dX0_wearDams_43 : decode cX0_wearDams 43 = .ok (.getfield 21, 3) := by decide +kernel
theorem dX0_wearDams_46 : decode cX0_wearDams 46 = .ok (.iload_n 1, 1) := by decide +kernel
theorem dX0_wearDams_47 : decode cX0_wearDams 47 = .ok (.iaload, 1) := by decide +kernel
theorem dX0_wearDams_48 : decode cX0_wearDams 48 = .ok (.bipush 10, 2) := by decide +kernel
theorem dX0_wearDams_50 : decode cX0_wearDams 50 = .ok (.if_icmp .lt 27, 3) := by decide +kernel
theorem dX0_wearDams_53 : decode cX0_wearDams 53 = .ok (.aload_n 0, 1) := by decide +kernel
theorem dX0_wearDams_54 : decode cX0_wearDams 54 = .ok (.getfield 18, 3) := by decide +kernel
theorem dX0_wearDams_57 : decode cX0_wearDams 57 = .ok (.iload_n 1, 1) := by decide +kernel
theorem dX0_wearDams_58 : decode cX0_wearDams 58 = .ok (.iconst 0, 1) := by decide +kernel
theorem dX0_wearDams_59 : decode cX0_wearDams 59 = .ok (.iastore, 1) := by decide +kernel
theorem dX0_wearDams_60 : decode cX0_wearDams 60 = .ok (.aload_n 0, 1) := by decide +kernel
theorem dX0_wearDams_61 : decode cX0_wearDams 61 = .ok (.getfield 21, 3) := by decide +kernel
theorem dX0_wearDams_64 : decode cX0_wearDams 64 = .ok (.iload_n 1, 1) := by decide +kernel
theorem dX0_wearDams_65 : decode cX0_wearDams 65 = .ok (.iconst 0, 1) := by decide +kernel
theorem dX0_wearDams_66 : decode cX0_wearDams 66 = .ok (.iastore, 1) := by decide +kernel
theorem dX0_wearDams_67 : decode cX0_wearDams 67 = .ok (.aload_n 0, 1) := by decide +kernel
theorem dX0_wearDams_68 : decode cX0_wearDams 68 = .ok (.dup, 1) := by decide +kernel
theorem dX0_wearDams_69 : decode cX0_wearDams 69 = .ok (.getfield 61, 3) := by decide +kernel
theorem dX0_wearDams_72 : decode cX0_wearDams 72 = .ok (.iconst 1, 1) := by decide +kernel
theorem dX0_wearDams_73 : decode cX0_wearDams 73 = .ok (.iadd, 1) := by decide +kernel
theorem dX0_wearDams_74 : decode cX0_wearDams 74 = .ok (.putfield 61, 3) := by decide +kernel
theorem dX0_wearDams_77 : decode cX0_wearDams 77 = .ok (.iinc 1 1, 3) := by decide +kernel
theorem dX0_wearDams_80 : decode cX0_wearDams 80 = .ok (.goto (-78), 3) := by decide +kernel
theorem dX0_wearDams_83 : decode cX0_wearDams 83 = .ok (.return_, 1) := by decide +kernel
theorem dX0_drainCells_0 : decode cX0_drainCells 0 = .ok (.iconst 0, 1) := by decide +kernel
theorem dX0_drainCells_1 : decode cX0_drainCells 1 = .ok (.istore_n 1, 1) := by decide +kernel
theorem dX0_drainCells_2 : decode cX0_drainCells 2 = .ok (.iload_n 1, 1) := by decide +kernel
theorem dX0_drainCells_3 : decode cX0_drainCells 3 = .ok (.bipush 64, 2) := by decide +kernel
theorem dX0_drainCells_5 : decode cX0_drainCells 5 = .ok (.if_icmp .ge 45, 3) := by decide +kernel
theorem dX0_drainCells_8 : decode cX0_drainCells 8 = .ok (.aload_n 0, 1) := by decide +kernel
theorem dX0_drainCells_9 : decode cX0_drainCells 9 = .ok (.getfield 24, 3) := by decide +kernel
theorem dX0_drainCells_12 : decode cX0_drainCells 12 = .ok (.iload_n 1, 1) := by decide +kernel
theorem dX0_drainCells_13 : decode cX0_drainCells 13 = .ok (.iaload, 1) := by decide +kernel
theorem dX0_drainCells_14 : decode cX0_drainCells 14 = .ok (.aload_n 0, 1) := by decide +kernel
theorem dX0_drainCells_15 : decode cX0_drainCells 15 = .ok (.getfield 15, 3) := by decide +kernel
theorem dX0_drainCells_18 : decode cX0_drainCells 18 = .ok (.iload_n 1, 1) := by decide +kernel
theorem dX0_drainCells_19 : decode cX0_drainCells 19 = .ok (.iaload, 1) := by decide +kernel
theorem dX0_drainCells_20 : decode cX0_drainCells 20 = .ok (.invokestatic 108, 3) := by decide +kernel
theorem dX0_drainCells_23 : decode cX0_drainCells 23 = .ok (.istore_n 2, 1) := by decide +kernel
theorem dX0_drainCells_24 : decode cX0_drainCells 24 = .ok (.aload_n 0, 1) := by decide +kernel
theorem dX0_drainCells_25 : decode cX0_drainCells 25 = .ok (.getfield 15, 3) := by decide +kernel
theorem dX0_drainCells_28 : decode cX0_drainCells 28 = .ok (.iload_n 1, 1) := by decide +kernel
theorem dX0_drainCells_29 : decode cX0_drainCells 29 = .ok (.dup2, 1) := by decide +kernel
theorem dX0_drainCells_30 : decode cX0_drainCells 30 = .ok (.iaload, 1) := by decide +kernel
theorem dX0_drainCells_31 : decode cX0_drainCells 31 = .ok (.iload_n 2, 1) := by decide +kernel
theorem dX0_drainCells_32 : decode cX0_drainCells 32 = .ok (.isub, 1) := by decide +kernel
theorem dX0_drainCells_33 : decode cX0_drainCells 33 = .ok (.iastore, 1) := by decide +kernel
theorem dX0_drainCells_34 : decode cX0_drainCells 34 = .ok (.aload_n 0, 1) := by decide +kernel
theorem dX0_drainCells_35 : decode cX0_drainCells 35 = .ok (.dup, 1) := by decide +kernel
theorem dX0_drainCells_36 : decode cX0_drainCells 36 = .ok (.getfield 64, 3) := by decide +kernel
theorem dX0_drainCells_39 : decode cX0_drainCells 39 = .ok (.iload_n 2, 1) := by decide +kernel
theorem dX0_drainCells_40 : decode cX0_drainCells 40 = .ok (.iadd, 1) := by decide +kernel
theorem dX0_drainCells_41 : decode cX0_drainCells 41 = .ok (.putfield 64, 3) := by decide +kernel
theorem dX0_drainCells_44 : decode cX0_drainCells 44 = .ok (.iinc 1 1, 3) := by decide +kernel
theorem dX0_drainCells_47 : decode cX0_drainCells 47 = .ok (.goto (-45), 3) := by decide +kernel
theorem dX0_drainCells_50 : decode cX0_drainCells 50 = .ok (.return_, 1) := by decide +kernel
theorem dX0_leaveTowns_0 : decode cX0_leaveTowns 0 = .ok (.iconst 0, 1) := by decide +kernel
theorem dX0_leaveTowns_1 : decode cX0_leaveTowns 1 = .ok (.istore_n 1, 1) := by decide +kernel
theorem dX0_leaveTowns_2 : decode cX0_leaveTowns 2 = .ok (.iload_n 1, 1) := by decide +kernel
theorem dX0_leaveTowns_3 : decode cX0_leaveTowns 3 = .ok (.bipush 64, 2) := by decide +kernel
theorem dX0_leaveTowns_5 : decode cX0_leaveTowns 5 = .ok (.if_icmp .ge 59, 3) := by decide +kernel
theorem dX0_leaveTowns_8 : decode cX0_leaveTowns 8 = .ok (.aload_n 0, 1) := by decide +kernel
theorem dX0_leaveTowns_9 : decode cX0_leaveTowns 9 = .ok (.getfield 15, 3) := by decide +kernel
theorem dX0_leaveTowns_12 : decode cX0_leaveTowns 12 = .ok (.iload_n 1, 1) := by decide +kernel
theorem dX0_leaveTowns_13 : decode cX0_leaveTowns 13 = .ok (.iaload, 1) := by decide +kernel
theorem dX0_leaveTowns_14 : decode cX0_leaveTowns 14 = .ok (.iconst 3, 1) := by decide +kernel
theorem dX0_leaveTowns_15 : decode cX0_leaveTowns 15 = .ok (.if_icmp .lt 43, 3) := by decide +kernel
theorem dX0_leaveTowns_18 : decode cX0_leaveTowns 18 = .ok (.aload_n 0, 1) := by decide +kernel
theorem dX0_leaveTowns_19 : decode cX0_leaveTowns 19 = .ok (.getfield 27, 3) := by decide +kernel
theorem dX0_leaveTowns_22 : decode cX0_leaveTowns 22 = .ok (.iload_n 1, 1) := by decide +kernel
theorem dX0_leaveTowns_23 : decode cX0_leaveTowns 23 = .ok (.iaload, 1) := by decide +kernel
theorem dX0_leaveTowns_24 : decode cX0_leaveTowns 24 = .ok (.iconst 3, 1) := by decide +kernel
theorem dX0_leaveTowns_25 : decode cX0_leaveTowns 25 = .ok (.idiv, 1) := by decide +kernel
theorem dX0_leaveTowns_26 : decode cX0_leaveTowns 26 = .ok (.iconst 1, 1) := by decide +kernel
theorem dX0_leaveTowns_27 : decode cX0_leaveTowns 27 = .ok (.iadd, 1) := by decide +kernel
theorem dX0_leaveTowns_28 : decode cX0_leaveTowns 28 = .ok (.aload_n 0, 1) := by decide +kernel
theorem dX0_leaveTowns_29 : decode cX0_leaveTowns 29 = .ok (.getfield 27, 3) := by decide +kernel
theorem dX0_leaveTowns_32 : decode cX0_leaveTowns 32 = .ok (.iload_n 1, 1) := by decide +kernel
theorem dX0_leaveTowns_33 : decode cX0_leaveTowns 33 = .ok (.iaload, 1) := by decide +kernel
theorem dX0_leaveTowns_34 : decode cX0_leaveTowns 34 = .ok (.invokestatic 108, 3) := by decide +kernel
theorem dX0_leaveTowns_37 : decode cX0_leaveTowns 37 = .ok (.istore_n 2, 1) := by decide +kernel
theorem dX0_leaveTowns_38 : decode cX0_leaveTowns 38 = .ok (.aload_n 0, 1) := by decide +kernel
theorem dX0_leaveTowns_39 : decode cX0_leaveTowns 39 = .ok (.getfield 27, 3) := by decide +kernel
theorem dX0_leaveTowns_42 : decode cX0_leaveTowns 42 = .ok (.iload_n 1, 1) := by decide +kernel
theorem dX0_leaveTowns_43 : decode cX0_leaveTowns 43 = .ok (.dup2, 1) := by decide +kernel
theorem dX0_leaveTowns_44 : decode cX0_leaveTowns 44 = .ok (.iaload, 1) := by decide +kernel
theorem dX0_leaveTowns_45 : decode cX0_leaveTowns 45 = .ok (.iload_n 2, 1) := by decide +kernel
theorem dX0_leaveTowns_46 : decode cX0_leaveTowns 46 = .ok (.isub, 1) := by decide +kernel
theorem dX0_leaveTowns_47 : decode cX0_leaveTowns 47 = .ok (.iastore, 1) := by decide +kernel
theorem dX0_leaveTowns_48 : decode cX0_leaveTowns 48 = .ok (.aload_n 0, 1) := by decide +kernel
theorem dX0_leaveTowns_49 : decode cX0_leaveTowns 49 = .ok (.dup, 1) := by decide +kernel
theorem dX0_leaveTowns_50 : decode cX0_leaveTowns 50 = .ok (.getfield 67, 3) := by decide +kernel
theorem dX0_leaveTowns_53 : decode cX0_leaveTowns 53 = .ok (.iload_n 2, 1) := by decide +kernel
theorem dX0_leaveTowns_54 : decode cX0_leaveTowns 54 = .ok (.iadd, 1) := by decide +kernel
theorem dX0_leaveTowns_55 : decode cX0_leaveTowns 55 = .ok (.putfield 67, 3) := by decide +kernel
theorem dX0_leaveTowns_58 : decode cX0_leaveTowns 58 = .ok (.iinc 1 1, 3) := by decide +kernel
theorem dX0_leaveTowns_61 : decode cX0_leaveTowns 61 = .ok (.goto (-59), 3) := by decide +kernel
theorem dX0_leaveTowns_64 : decode cX0_leaveTowns 64 = .ok (.return_, 1) := by decide +kernel
theorem dX0_levelOf_0 : decode cX0_levelOf 0 = .ok (.aload_n 0, 1) := by decide +kernel
theorem dX0_levelOf_1 : decode cX0_levelOf 1 = .ok (.getfield 9, 3) := by decide +kernel
theorem dX0_levelOf_4 : decode cX0_levelOf 4 = .ok (.iload_n 1, 1) := by decide +kernel
theorem dX0_levelOf_5 : decode cX0_levelOf 5 = .ok (.iaload, 1) := by decide +kernel
theorem dX0_levelOf_6 : decode cX0_levelOf 6 = .ok (.aload_n 0, 1) := by decide +kernel
theorem dX0_levelOf_7 : decode cX0_levelOf 7 = .ok (.getfield 15, 3) := by decide +kernel
theorem dX0_levelOf_10 : decode cX0_levelOf 10 = .ok (.iload_n 1, 1) := by decide +kernel
theorem dX0_levelOf_11 : decode cX0_levelOf 11 = .ok (.iaload, 1) := by decide +kernel
theorem dX0_levelOf_12 : decode cX0_levelOf 12 = .ok (.iadd, 1) := by decide +kernel
theorem dX0_levelOf_13 : decode cX0_levelOf 13 = .ok (.ireturn, 1) := by decide +kernel
theorem dX0_crestOf_0 : decode cX0_crestOf 0 = .ok (.aload_n 0, 1) := by decide +kernel
theorem dX0_crestOf_1 : decode cX0_crestOf 1 = .ok (.getfield 9, 3) := by decide +kernel
theorem dX0_crestOf_4 : decode cX0_crestOf 4 = .ok (.iload_n 1, 1) := by decide +kernel
theorem dX0_crestOf_5 : decode cX0_crestOf 5 = .ok (.iaload, 1) := by decide +kernel
theorem dX0_crestOf_6 : decode cX0_crestOf 6 = .ok (.aload_n 0, 1) := by decide +kernel
theorem dX0_crestOf_7 : decode cX0_crestOf 7 = .ok (.getfield 18, 3) := by decide +kernel
theorem dX0_crestOf_10 : decode cX0_crestOf 10 = .ok (.iload_n 1, 1) := by decide +kernel
theorem dX0_crestOf_11 : decode cX0_crestOf 11 = .ok (.iaload, 1) := by decide +kernel
theorem dX0_crestOf_12 : decode cX0_crestOf 12 = .ok (.aload_n 0, 1) := by decide +kernel
theorem dX0_crestOf_13 : decode cX0_crestOf 13 = .ok (.getfield 15, 3) := by decide +kernel
theorem dX0_crestOf_16 : decode cX0_crestOf 16 = .ok (.iload_n 1, 1) := by decide +kernel
theorem dX0_crestOf_17 : decode cX0_crestOf 17 = .ok (.iaload, 1) := by decide +kernel
theorem dX0_crestOf_18 : decode cX0_crestOf 18 = .ok (.invokestatic 114, 3) := by decide +kernel
theorem dX0_crestOf_21 : decode cX0_crestOf 21 = .ok (.iadd, 1) := by decide +kernel
theorem dX0_crestOf_22 : decode cX0_crestOf 22 = .ok (.ireturn, 1) := by decide +kernel
set_option maxRecDepth 20000 in
theorem ggX0_cellNumber_X0_levelOf : GoodIn wsX0_cellNumber wsX0_levelOf := goodIn_r _ [11, 1, 2, 20, 21, 22, 23, 24, 25, 26, 27, 28, 29, 30, 31, 32, 33, 34] (by decide +kernel) (by decide +kernel)
set_option maxRecDepth 20000 in
theorem gX0_cellNumber_X0_levelOf : GoodIn wsX0_cellNumber (wsV RX0 105 RX0 yX0_levelOf wsX0_levelOf) := goodIn_app (goodIn_of _ (by decide +kernel)) ggX0_cellNumber_X0_levelOf
set_option maxRecDepth 20000 in
theorem ggX0_cellNumber_X0_crestOf : GoodIn wsX0_cellNumber wsX0_crestOf := goodIn_r _ [15, 1, 3, 2, 16, 17, 18, 19, 20, 21, 22, 23, 24, 25, 26, 27, 28, 29, 30, 31, 32, 33, 34] (by decide +kernel) (by decide +kernel)
set_option maxRecDepth 20000 in
theorem gX0_cellNumber_X0_crestOf : GoodIn wsX0_cellNumber (wsV RX0 94 RX0 yX0_crestOf wsX0_crestOf) := goodIn_app (goodIn_of _ (by decide +kernel)) ggX0_cellNumber_X0_crestOf
theorem dX0_cellNumber_0 : decode cX0_cellNumber 0 = .ok (.iload_n 2, 1) := by decide +kernel
theorem dX0_cellNumber_1 : decode cX0_cellNumber 1 = .ok (.tableswitch 91 0 6 #[43, 50, 57, 64, 71, 78, 85], 43) := by decide +kernel
theorem dX0_cellNumber_44 : decode cX0_cellNumber 44 = .ok (.aload_n 0, 1) := by decide +kernel
theorem dX0_cellNumber_45 : decode cX0_cellNumber 45 = .ok (.getfield 9, 3) := by decide +kernel
theorem dX0_cellNumber_48 : decode cX0_cellNumber 48 = .ok (.iload_n 1, 1) := by decide +kernel
theorem dX0_cellNumber_49 : decode cX0_cellNumber 49 = .ok (.iaload, 1) := by decide +kernel
theorem dX0_cellNumber_50 : decode cX0_cellNumber 50 = .ok (.ireturn, 1) := by decide +kernel
theorem dX0_cellNumber_51 : decode cX0_cellNumber 51 = .ok (.aload_n 0, 1) := by decide +kernel
theorem dX0_cellNumber_52 : decode cX0_cellNumber 52 = .ok (.getfield 15, 3) := by decide +kernel
theorem dX0_cellNumber_55 : decode cX0_cellNumber 55 = .ok (.iload_n 1, 1) := by decide +kernel
theorem dX0_cellNumber_56 : decode cX0_cellNumber 56 = .ok (.iaload, 1) := by decide +kernel
theorem dX0_cellNumber_57 : decode cX0_cellNumber 57 = .ok (.ireturn, 1) := by decide +kernel
theorem dX0_cellNumber_58 : decode cX0_cellNumber 58 = .ok (.aload_n 0, 1) := by decide +kernel
theorem dX0_cellNumber_59 : decode cX0_cellNumber 59 = .ok (.getfield 18, 3) := by decide +kernel
theorem dX0_cellNumber_62 : decode cX0_cellNumber 62 = .ok (.iload_n 1, 1) := by decide +kernel
theorem dX0_cellNumber_63 : decode cX0_cellNumber 63 = .ok (.iaload, 1) := by decide +kernel
theorem dX0_cellNumber_64 : decode cX0_cellNumber 64 = .ok (.ireturn, 1) := by decide +kernel
theorem dX0_cellNumber_65 : decode cX0_cellNumber 65 = .ok (.aload_n 0, 1) := by decide +kernel
theorem dX0_cellNumber_66 : decode cX0_cellNumber 66 = .ok (.getfield 21, 3) := by decide +kernel
theorem dX0_cellNumber_69 : decode cX0_cellNumber 69 = .ok (.iload_n 1, 1) := by decide +kernel
theorem dX0_cellNumber_70 : decode cX0_cellNumber 70 = .ok (.iaload, 1) := by decide +kernel
theorem dX0_cellNumber_71 : decode cX0_cellNumber 71 = .ok (.ireturn, 1) := by decide +kernel
theorem dX0_cellNumber_72 : decode cX0_cellNumber 72 = .ok (.aload_n 0, 1) := by decide +kernel
theorem dX0_cellNumber_73 : decode cX0_cellNumber 73 = .ok (.getfield 24, 3) := by decide +kernel
theorem dX0_cellNumber_76 : decode cX0_cellNumber 76 = .ok (.iload_n 1, 1) := by decide +kernel
theorem dX0_cellNumber_77 : decode cX0_cellNumber 77 = .ok (.iaload, 1) := by decide +kernel
theorem dX0_cellNumber_78 : decode cX0_cellNumber 78 = .ok (.ireturn, 1) := by decide +kernel
theorem dX0_cellNumber_79 : decode cX0_cellNumber 79 = .ok (.aload_n 0, 1) := by decide +kernel
theorem dX0_cellNumber_80 : decode cX0_cellNumber 80 = .ok (.getfield 27, 3) := by decide +kernel
theorem dX0_cellNumber_83 : decode cX0_cellNumber 83 = .ok (.iload_n 1, 1) := by decide +kernel
theorem dX0_cellNumber_84 : decode cX0_cellNumber 84 = .ok (.iaload, 1) := by decide +kernel
theorem dX0_cellNumber_85 : decode cX0_cellNumber 85 = .ok (.ireturn, 1) := by decide +kernel
theorem dX0_cellNumber_86 : decode cX0_cellNumber 86 = .ok (.aload_n 0, 1) := by decide +kernel
theorem dX0_cellNumber_87 : decode cX0_cellNumber 87 = .ok (.iload_n 1, 1) := by decide +kernel
theorem dX0_cellNumber_88 : decode cX0_cellNumber 88 = .ok (.invokevirtual 105, 3) := by decide +kernel
theorem dX0_cellNumber_91 : decode cX0_cellNumber 91 = .ok (.ireturn, 1) := by decide +kernel
theorem dX0_cellNumber_92 : decode cX0_cellNumber 92 = .ok (.aload_n 0, 1) := by decide +kernel
theorem dX0_cellNumber_93 : decode cX0_cellNumber 93 = .ok (.iload_n 1, 1) := by decide +kernel
theorem dX0_cellNumber_94 : decode cX0_cellNumber 94 = .ok (.invokevirtual 94, 3) := by decide +kernel
theorem dX0_cellNumber_97 : decode cX0_cellNumber 97 = .ok (.ireturn, 1) := by decide +kernel
set_option maxRecDepth 20000 in
theorem ggX0_tally_X0_sum : GoodIn wsX0_tally wsX0_sum := goodIn_r _ [12] (by decide +kernel) (by decide +kernel)
set_option maxRecDepth 20000 in
theorem gX0_tally_X0_sum : GoodIn wsX0_tally (wsV RX0 117 RX0 yX0_sum wsX0_sum) := goodIn_app (goodIn_of _ (by decide +kernel)) ggX0_tally_X0_sum
set_option maxRecDepth 20000 in
theorem ggX0_tally_X0_wetCells : GoodIn wsX0_tally wsX0_wetCells := goodIn_r _ [16, 2, 17, 18, 19, 11, 20, 42, 43, 44, 45, 46, 47, 48, 49, 50, 51, 52, 53, 54, 55, 56] (by decide +kernel) (by decide +kernel)
set_option maxRecDepth 20000 in
theorem gX0_tally_X0_wetCells : GoodIn wsX0_tally (wsV RX0 121 RX0 yX0_wetCells wsX0_wetCells) := goodIn_app (goodIn_of _ (by decide +kernel)) ggX0_tally_X0_wetCells
set_option maxRecDepth 20000 in
theorem ggX0_tally_X0_above0 : GoodIn wsX0_tally wsX0_above0 := goodIn_r _ [20] (by decide +kernel) (by decide +kernel)
set_option maxRecDepth 20000 in
theorem gX0_tally_X0_above0 : GoodIn wsX0_tally (wsV RX0 125 RX0 yX0_above0 wsX0_above0) := goodIn_app (goodIn_of _ (by decide +kernel)) ggX0_tally_X0_above0
set_option maxRecDepth 20000 in
theorem ggX0_tally_X0_lakes : GoodIn wsX0_tally wsX0_lakes := goodIn_r _ [24, 25, 26, 27, 28, 29, 30, 31, 32, 11, 33, 34, 35, 36, 37, 38, 2, 39, 40, 41, 42, 43, 44, 45, 46, 47, 48, 49, 50, 51, 52, 53, 54, 55, 56] (by decide +kernel) (by decide +kernel)
set_option maxRecDepth 20000 in
theorem gX0_tally_X0_lakes : GoodIn wsX0_tally (wsV RX0 128 RX0 yX0_lakes wsX0_lakes) := goodIn_app (goodIn_of _ (by decide +kernel)) ggX0_tally_X0_lakes
theorem dX0_tally_0 : decode cX0_tally 0 = .ok (.iload_n 1, 1) := by decide +kernel
theorem dX0_tally_1 : decode cX0_tally 1 = .ok (.tableswitch 99 0 7 #[47, 52, 61, 66, 75, 80, 85, 94], 47) := by decide +kernel
theorem dX0_tally_48 : decode cX0_tally 48 = .ok (.aload_n 0, 1) := by decide +kernel
theorem dX0_tally_49 : decode cX0_tally 49 = .ok (.getfield 57, 3) := by decide +kernel
theorem dX0_tally_52 : decode cX0_tally 52 = .ok (.ireturn, 1) := by decide +kernel
theorem dX0_tally_53 : decode cX0_tally 53 = .ok (.aload_n 0, 1) := by decide +kernel
theorem dX0_tally_54 : decode cX0_tally 54 = .ok (.aload_n 0, 1) := by decide +kernel
theorem dX0_tally_55 : decode cX0_tally 55 = .ok (.getfield 15, 3) := by decide +kernel
theorem dX0_tally_58 : decode cX0_tally 58 = .ok (.invokevirtual 117, 3) := by decide +kernel
theorem dX0_tally_61 : decode cX0_tally 61 = .ok (.ireturn, 1) := by decide +kernel
theorem dX0_tally_62 : decode cX0_tally 62 = .ok (.aload_n 0, 1) := by decide +kernel
theorem dX0_tally_63 : decode cX0_tally 63 = .ok (.invokevirtual 121, 3) := by decide +kernel
theorem dX0_tally_66 : decode cX0_tally 66 = .ok (.ireturn, 1) := by decide +kernel
theorem dX0_tally_67 : decode cX0_tally 67 = .ok (.aload_n 0, 1) := by decide +kernel
theorem dX0_tally_68 : decode cX0_tally 68 = .ok (.aload_n 0, 1) := by decide +kernel
theorem dX0_tally_69 : decode cX0_tally 69 = .ok (.getfield 18, 3) := by decide +kernel
theorem dX0_tally_72 : decode cX0_tally 72 = .ok (.invokevirtual 125, 3) := by decide +kernel
theorem dX0_tally_75 : decode cX0_tally 75 = .ok (.ireturn, 1) := by decide +kernel
theorem dX0_tally_76 : decode cX0_tally 76 = .ok (.aload_n 0, 1) := by decide +kernel
theorem dX0_tally_77 : decode cX0_tally 77 = .ok (.getfield 61, 3) := by decide +kernel
theorem dX0_tally_80 : decode cX0_tally 80 = .ok (.ireturn, 1) := by decide +kernel
theorem dX0_tally_81 : decode cX0_tally 81 = .ok (.aload_n 0, 1) := by decide +kernel
theorem dX0_tally_82 : decode cX0_tally 82 = .ok (.getfield 64, 3) := by decide +kernel
theorem dX0_tally_85 : decode cX0_tally 85 = .ok (.ireturn, 1) := by decide +kernel
theorem dX0_tally_86 : decode cX0_tally 86 = .ok (.aload_n 0, 1) := by decide +kernel
theorem dX0_tally_87 : decode cX0_tally 87 = .ok (.aload_n 0, 1) := by decide +kernel
theorem dX0_tally_88 : decode cX0_tally 88 = .ok (.getfield 27, 3) := by decide +kernel
theorem dX0_tally_91 : decode cX0_tally 91 = .ok (.invokevirtual 117, 3) := by decide +kernel
theorem dX0_tally_94 : decode cX0_tally 94 = .ok (.ireturn, 1) := by decide +kernel
theorem dX0_tally_95 : decode cX0_tally 95 = .ok (.aload_n 0, 1) := by decide +kernel
theorem dX0_tally_96 : decode cX0_tally 96 = .ok (.getfield 67, 3) := by decide +kernel
theorem dX0_tally_99 : decode cX0_tally 99 = .ok (.ireturn, 1) := by decide +kernel
theorem dX0_tally_100 : decode cX0_tally 100 = .ok (.aload_n 0, 1) := by decide +kernel
theorem dX0_tally_101 : decode cX0_tally 101 = .ok (.invokevirtual 128, 3) := by decide +kernel
theorem dX0_tally_104 : decode cX0_tally 104 = .ok (.ireturn, 1) := by decide +kernel
set_option maxRecDepth 20000 in
theorem ggX0_wetCells_X0_above0 : GoodIn wsX0_wetCells wsX0_above0 := goodIn_r _ [6] (by decide +kernel) (by decide +kernel)
set_option maxRecDepth 20000 in
theorem gX0_wetCells_X0_above0 : GoodIn wsX0_wetCells (wsV RX0 125 RX0 yX0_above0 wsX0_above0) := goodIn_app (goodIn_of _ (by decide +kernel)) ggX0_wetCells_X0_above0
theorem dX0_wetCells_0 : decode cX0_wetCells 0 = .ok (.aload_n 0, 1) := by decide +kernel
theorem dX0_wetCells_1 : decode cX0_wetCells 1 = .ok (.aload_n 0, 1) := by decide +kernel
theorem dX0_wetCells_2 : decode cX0_wetCells 2 = .ok (.getfield 15, 3) := by decide +kernel
theorem dX0_wetCells_5 : decode cX0_wetCells 5 = .ok (.invokevirtual 125, 3) := by decide +kernel
theorem dX0_wetCells_8 : decode cX0_wetCells 8 = .ok (.ireturn, 1) := by decide +kernel
theorem dX0_sum_0 : decode cX0_sum 0 = .ok (.iconst 0, 1) := by decide +kernel
theorem dX0_sum_1 : decode cX0_sum 1 = .ok (.istore_n 2, 1) := by decide +kernel
theorem dX0_sum_2 : decode cX0_sum 2 = .ok (.aload_n 1, 1) := by decide +kernel
theorem dX0_sum_3 : decode cX0_sum 3 = .ok (.astore_n 3, 1) := by decide +kernel
theorem dX0_sum_4 : decode cX0_sum 4 = .ok (.aload_n 3, 1) := by decide +kernel
theorem dX0_sum_5 : decode cX0_sum 5 = .ok (.arraylength, 1) := by decide +kernel
theorem dX0_sum_6 : decode cX0_sum 6 = .ok (.istore 4, 2) := by decide +kernel
theorem dX0_sum_8 : decode cX0_sum 8 = .ok (.iconst 0, 1) := by decide +kernel
theorem dX0_sum_9 : decode cX0_sum 9 = .ok (.istore 5, 2) := by decide +kernel
theorem dX0_sum_11 : decode cX0_sum 11 = .ok (.iload 5, 2) := by decide +kernel
theorem dX0_sum_13 : decode cX0_sum 13 = .ok (.iload 4, 2) := by decide +kernel
theorem dX0_sum_15 : decode cX0_sum 15 = .ok (.if_icmp .ge 20, 3) := by decide +kernel
theorem dX0_sum_18 : decode cX0_sum 18 = .ok (.aload_n 3, 1) := by decide +kernel
theorem dX0_sum_19 : decode cX0_sum 19 = .ok (.iload 5, 2) := by decide +kernel
theorem dX0_sum_21 : decode cX0_sum 21 = .ok (.iaload, 1) := by decide +kernel
theorem dX0_sum_22 : decode cX0_sum 22 = .ok (.istore 6, 2) := by decide +kernel
theorem dX0_sum_24 : decode cX0_sum 24 = .ok (.iload_n 2, 1) := by decide +kernel
theorem dX0_sum_25 : decode cX0_sum 25 = .ok (.iload 6, 2) := by decide +kernel
theorem dX0_sum_27 : decode cX0_sum 27 = .ok (.iadd, 1) := by decide +kernel
theorem dX0_sum_28 : decode cX0_sum 28 = .ok (.istore_n 2, 1) := by decide +kernel
theorem dX0_sum_29 : decode cX0_sum 29 = .ok (.iinc 5 1, 3) := by decide +kernel
theorem dX0_sum_32 : decode cX0_sum 32 = .ok (.goto (-21), 3) := by decide +kernel
theorem dX0_sum_35 : decode cX0_sum 35 = .ok (.iload_n 2, 1) := by decide +kernel
theorem dX0_sum_36 : decode cX0_sum 36 = .ok (.ireturn, 1) := by decide +kernel
theorem dX0_above0_0 : decode cX0_above0 0 = .ok (.iconst 0, 1) := by decide +kernel
theorem dX0_above0_1 : decode cX0_above0 1 = .ok (.istore_n 2, 1) := by decide +kernel
theorem dX0_above0_2 : decode cX0_above0 2 = .ok (.aload_n 1, 1) := by decide +kernel
theorem dX0_above0_3 : decode cX0_above0 3 = .ok (.astore_n 3, 1) := by decide +kernel
theorem dX0_above0_4 : decode cX0_above0 4 = .ok (.aload_n 3, 1) := by decide +kernel
theorem dX0_above0_5 : decode cX0_above0 5 = .ok (.arraylength, 1) := by decide +kernel
theorem dX0_above0_6 : decode cX0_above0 6 = .ok (.istore 4, 2) := by decide +kernel
theorem dX0_above0_8 : decode cX0_above0 8 = .ok (.iconst 0, 1) := by decide +kernel
theorem dX0_above0_9 : decode cX0_above0 9 = .ok (.istore 5, 2) := by decide +kernel
theorem dX0_above0_11 : decode cX0_above0 11 = .ok (.iload 5, 2) := by decide +kernel
theorem dX0_above0_13 : decode cX0_above0 13 = .ok (.iload 4, 2) := by decide +kernel
theorem dX0_above0_15 : decode cX0_above0 15 = .ok (.if_icmp .ge 23, 3) := by decide +kernel
theorem dX0_above0_18 : decode cX0_above0 18 = .ok (.aload_n 3, 1) := by decide +kernel
theorem dX0_above0_19 : decode cX0_above0 19 = .ok (.iload 5, 2) := by decide +kernel
theorem dX0_above0_21 : decode cX0_above0 21 = .ok (.iaload, 1) := by decide +kernel
theorem dX0_above0_22 : decode cX0_above0 22 = .ok (.istore 6, 2) := by decide +kernel
theorem dX0_above0_24 : decode cX0_above0 24 = .ok (.iload 6, 2) := by decide +kernel
theorem dX0_above0_26 : decode cX0_above0 26 = .ok (.ifCond .le 6, 3) := by decide +kernel
theorem dX0_above0_29 : decode cX0_above0 29 = .ok (.iinc 2 1, 3) := by decide +kernel
theorem dX0_above0_32 : decode cX0_above0 32 = .ok (.iinc 5 1, 3) := by decide +kernel
theorem dX0_above0_35 : decode cX0_above0 35 = .ok (.goto (-24), 3) := by decide +kernel
theorem dX0_above0_38 : decode cX0_above0 38 = .ok (.iload_n 2, 1) := by decide +kernel
theorem dX0_above0_39 : decode cX0_above0 39 = .ok (.ireturn, 1) := by decide +kernel
set_option maxRecDepth 20000 in
theorem ggX0_lakeSize_J7_fill_53178 : GoodIn wsX0_lakeSize wsJ7_fill_53178 := goodIn_r _ [5] (by decide +kernel) (by decide +kernel)
set_option maxRecDepth 20000 in
theorem gX0_lakeSize_J7_fill_53178 : GoodIn wsX0_lakeSize (va_wsS RX0 45 yJ7_fill_53178 wsJ7_fill_53178) := goodIn_app (goodIn_of _ (by decide +kernel)) ggX0_lakeSize_J7_fill_53178
set_option maxRecDepth 20000 in
theorem ggX0_lakeSize_X0_spreadFrom : GoodIn wsX0_lakeSize wsX0_spreadFrom := goodIn_r _ [10, 11, 12, 13, 14, 9, 15, 1, 16, 17, 18, 19, 20, 21, 22, 23, 24, 25, 26, 27, 28, 29, 30, 31, 32, 33, 34] (by decide +kernel) (by decide +kernel)
set_option maxRecDepth 20000 in
theorem gX0_lakeSize_X0_spreadFrom : GoodIn wsX0_lakeSize (wsV RX0 131 RX0 yX0_spreadFrom wsX0_spreadFrom) := goodIn_app (goodIn_of _ (by decide +kernel)) ggX0_lakeSize_X0_spreadFrom
theorem dX0_lakeSize_0 : decode cX0_lakeSize 0 = .ok (.aload_n 0, 1) := by decide +kernel
theorem dX0_lakeSize_1 : decode cX0_lakeSize 1 = .ok (.getfield 39, 3) := by decide +kernel
theorem dX0_lakeSize_4 : decode cX0_lakeSize 4 = .ok (.iconst 0, 1) := by decide +kernel
theorem dX0_lakeSize_5 : decode cX0_lakeSize 5 = .ok (.invokestatic 45, 3) := by decide +kernel
theorem dX0_lakeSize_8 : decode cX0_lakeSize 8 = .ok (.aload_n 0, 1) := by decide +kernel
theorem dX0_lakeSize_9 : decode cX0_lakeSize 9 = .ok (.iload_n 1, 1) := by decide +kernel
theorem dX0_lakeSize_10 : decode cX0_lakeSize 10 = .ok (.invokevirtual 131, 3) := by decide +kernel
theorem dX0_lakeSize_13 : decode cX0_lakeSize 13 = .ok (.ireturn, 1) := by decide +kernel
set_option maxRecDepth 20000 in
theorem ggX0_lakes_J7_fill_53178 : GoodIn wsX0_lakes wsJ7_fill_53178 := goodIn_r _ [5] (by decide +kernel) (by decide +kernel)
set_option maxRecDepth 20000 in
theorem gX0_lakes_J7_fill_53178 : GoodIn wsX0_lakes (va_wsS RX0 45 yJ7_fill_53178 wsJ7_fill_53178) := goodIn_app (goodIn_of _ (by decide +kernel)) ggX0_lakes_J7_fill_53178
set_option maxRecDepth 20000 in
theorem ggX0_lakes_X0_spreadFrom : GoodIn wsX0_lakes wsX0_spreadFrom := goodIn_r _ [10, 11, 12, 13, 14, 9, 15, 1, 16, 17, 18, 19, 20, 21, 22, 23, 24, 25, 26, 27, 28, 29, 30, 31, 32, 33, 34] (by decide +kernel) (by decide +kernel)
set_option maxRecDepth 20000 in
theorem gX0_lakes_X0_spreadFrom : GoodIn wsX0_lakes (wsV RX0 131 RX0 yX0_spreadFrom wsX0_spreadFrom) := goodIn_app (goodIn_of _ (by decide +kernel)) ggX0_lakes_X0_spreadFrom
theorem dX0_lakes_0 : decode cX0_lakes 0 = .ok (.aload_n 0, 1) := by decide +kernel
theorem dX0_lakes_1 : decode cX0_lakes 1 = .ok (.getfield 39, 3) := by decide +kernel
theorem dX0_lakes_4 : decode cX0_lakes 4 = .ok (.iconst 0, 1) := by decide +kernel
theorem dX0_lakes_5 : decode cX0_lakes 5 = .ok (.invokestatic 45, 3) := by decide +kernel
theorem dX0_lakes_8 : decode cX0_lakes 8 = .ok (.iconst 0, 1) := by decide +kernel
theorem dX0_lakes_9 : decode cX0_lakes 9 = .ok (.istore_n 1, 1) := by decide +kernel
theorem dX0_lakes_10 : decode cX0_lakes 10 = .ok (.iconst 0, 1) := by decide +kernel
theorem dX0_lakes_11 : decode cX0_lakes 11 = .ok (.istore_n 2, 1) := by decide +kernel
theorem dX0_lakes_12 : decode cX0_lakes 12 = .ok (.iload_n 2, 1) := by decide +kernel
theorem dX0_lakes_13 : decode cX0_lakes 13 = .ok (.bipush 64, 2) := by decide +kernel
theorem dX0_lakes_15 : decode cX0_lakes 15 = .ok (.if_icmp .ge 20, 3) := by decide +kernel
theorem dX0_lakes_18 : decode cX0_lakes 18 = .ok (.aload_n 0, 1) := by decide +kernel
theorem dX0_lakes_19 : decode cX0_lakes 19 = .ok (.iload_n 2, 1) := by decide +kernel
theorem dX0_lakes_20 : decode cX0_lakes 20 = .ok (.invokevirtual 131, 3) := by decide +kernel
theorem dX0_lakes_23 : decode cX0_lakes 23 = .ok (.ifCond .le 6, 3) := by decide +kernel
theorem dX0_lakes_26 : decode cX0_lakes 26 = .ok (.iinc 1 1, 3) := by decide +kernel
theorem dX0_lakes_29 : decode cX0_lakes 29 = .ok (.iinc 2 1, 3) := by decide +kernel
theorem dX0_lakes_32 : decode cX0_lakes 32 = .ok (.goto (-20), 3) := by decide +kernel
theorem dX0_lakes_35 : decode cX0_lakes 35 = .ok (.iload_n 1, 1) := by decide +kernel
theorem dX0_lakes_36 : decode cX0_lakes 36 = .ok (.ireturn, 1) := by decide +kernel
set_option maxRecDepth 20000 in
theorem ggX0_spreadFrom_X0_meet : GoodIn wsX0_spreadFrom wsX0_meet := goodIn_r _ [6, 7, 8, 1, 12, 13, 14, 15, 16, 17, 18, 19, 20, 21, 22, 23, 24, 25, 26] (by decide +kernel) (by decide +kernel)
set_option maxRecDepth 20000 in
theorem gX0_spreadFrom_X0_meet : GoodIn wsX0_spreadFrom (wsV RX0 134 RX0 yX0_meet wsX0_meet) := goodIn_app (goodIn_of _ (by decide +kernel)) ggX0_spreadFrom_X0_meet
set_option maxRecDepth 20000 in
theorem ggX0_spreadFrom_X0_neighbourOf : GoodIn wsX0_spreadFrom wsX0_neighbourOf := goodIn_r _ [11] (by decide +kernel) (by decide +kernel)
set_option maxRecDepth 20000 in
theorem gX0_spreadFrom_X0_neighbourOf : GoodIn wsX0_spreadFrom (va_wsS RX0 111 yX0_neighbourOf wsX0_neighbourOf) := goodIn_app (goodIn_of _ (by decide +kernel)) ggX0_spreadFrom_X0_neighbourOf
theorem dX0_spreadFrom_0 : decode cX0_spreadFrom 0 = .ok (.aload_n 0, 1) := by decide +kernel
theorem dX0_spreadFrom_1 : decode cX0_spreadFrom 1 = .ok (.iload_n 1, 1) := by decide +kernel
theorem dX0_spreadFrom_2 : decode cX0_spreadFrom 2 = .ok (.iconst 0, 1) := by decide +kernel
theorem dX0_spreadFrom_3 : decode cX0_spreadFrom 3 = .ok (.invokevirtual 134, 3) := by decide +kernel
theorem dX0_spreadFrom_6 : decode cX0_spreadFrom 6 = .ok (.istore_n 2, 1) := by decide +kernel
theorem dX0_spreadFrom_7 : decode cX0_spreadFrom 7 = .ok (.iconst 0, 1) := by decide +kernel
theorem dX0_spreadFrom_8 : decode cX0_spreadFrom 8 = .ok (.istore_n 3, 1) := by decide +kernel
theorem dX0_spreadFrom_9 : decode cX0_spreadFrom 9 = .ok (.iload_n 3, 1) := by decide +kernel
theorem dX0_spreadFrom_10 : decode cX0_spreadFrom 10 = .ok (.iload_n 2, 1) := by decide +kernel
theorem dX0_spreadFrom_11 : decode cX0_spreadFrom 11 = .ok (.if_icmp .ge 47, 3) := by decide +kernel
theorem dX0_spreadFrom_14 : decode cX0_spreadFrom 14 = .ok (.iload_n 3, 1) := by decide +kernel
theorem dX0_spreadFrom_15 : decode cX0_spreadFrom 15 = .ok (.bipush 64, 2) := by decide +kernel
theorem dX0_spreadFrom_17 : decode cX0_spreadFrom 17 = .ok (.if_icmp .ge 41, 3) := by decide +kernel
theorem dX0_spreadFrom_20 : decode cX0_spreadFrom 20 = .ok (.iconst 0, 1) := by decide +kernel
theorem dX0_spreadFrom_21 : decode cX0_spreadFrom 21 = .ok (.istore 4, 2) := by decide +kernel
theorem dX0_spreadFrom_23 : decode cX0_spreadFrom 23 = .ok (.iload 4, 2) := by decide +kernel
theorem dX0_spreadFrom_25 : decode cX0_spreadFrom 25 = .ok (.iconst 4, 1) := by decide +kernel
theorem dX0_spreadFrom_26 : decode cX0_spreadFrom 26 = .ok (.if_icmp .ge 26, 3) := by decide +kernel
theorem dX0_spreadFrom_29 : decode cX0_spreadFrom 29 = .ok (.aload_n 0, 1) := by decide +kernel
theorem dX0_spreadFrom_30 : decode cX0_spreadFrom 30 = .ok (.aload_n 0, 1) := by decide +kernel
theorem dX0_spreadFrom_31 : decode cX0_spreadFrom 31 = .ok (.getfield 42, 3) := by decide +kernel
theorem dX0_spreadFrom_34 : decode cX0_spreadFrom 34 = .ok (.iload_n 3, 1) := by decide +kernel
theorem dX0_spreadFrom_35 : decode cX0_spreadFrom 35 = .ok (.iaload, 1) := by decide +kernel
theorem dX0_spreadFrom_36 : decode cX0_spreadFrom 36 = .ok (.iload 4, 2) := by decide +kernel
theorem dX0_spreadFrom_38 : decode cX0_spreadFrom 38 = .ok (.invokestatic 111, 3) := by decide +kernel
theorem dX0_spreadFrom_41 : decode cX0_spreadFrom 41 = .ok (.iload_n 2, 1) := by decide +kernel
theorem dX0_spreadFrom_42 : decode cX0_spreadFrom 42 = .ok (.invokevirtual 134, 3) := by decide +kernel
theorem dX0_spreadFrom_45 : decode cX0_spreadFrom 45 = .ok (.istore_n 2, 1) := by decide +kernel
theorem dX0_spreadFrom_46 : decode cX0_spreadFrom 46 = .ok (.iinc 4 1, 3) := by decide +kernel
theorem dX0_spreadFrom_49 : decode cX0_spreadFrom 49 = .ok (.goto (-26), 3) := by decide +kernel
theorem dX0_spreadFrom_52 : decode cX0_spreadFrom 52 = .ok (.iinc 3 1, 3) := by decide +kernel
theorem dX0_spreadFrom_55 : decode cX0_spreadFrom 55 = .ok (.goto (-46), 3) := by decide +kernel
theorem dX0_spreadFrom_58 : decode cX0_spreadFrom 58 = .ok (.iload_n 2, 1) := by decide +kernel
theorem dX0_spreadFrom_59 : decode cX0_spreadFrom 59 = .ok (.ireturn, 1) := by decide +kernel
theorem dX0_meet_0 : decode cX0_meet 0 = .ok (.iload_n 1, 1) := by decide +kernel
theorem dX0_meet_1 : decode cX0_meet 1 = .ok (.ifCond .lt 27, 3) := by decide +kernel
theorem dX0_meet_4 : decode cX0_meet 4 = .ok (.iload_n 2, 1) := by decide +kernel
theorem dX0_meet_5 : decode cX0_meet 5 = .ok (.bipush 64, 2) := by decide +kernel
theorem dX0_meet_7 : decode cX0_meet 7 = .ok (.if_icmp .ge 21, 3) := by decide +kernel
theorem dX0_meet_10 : decode cX0_meet 10 = .ok (.aload_n 0, 1) := by decide +kernel
theorem dX0_meet_11 : decode cX0_meet 11 = .ok (.getfield 39, 3) := by decide +kernel
theorem dX0_meet_14 : decode cX0_meet 14 = .ok (.iload_n 1, 1) := by decide +kernel
theorem dX0_meet_15 : decode cX0_meet 15 = .ok (.iaload, 1) := by decide +kernel
theorem dX0_meet_16 : decode cX0_meet 16 = .ok (.ifCond .ne 12, 3) := by decide +kernel
theorem dX0_meet_19 : decode cX0_meet 19 = .ok (.aload_n 0, 1) := by decide +kernel
theorem dX0_meet_20 : decode cX0_meet 20 = .ok (.getfield 15, 3) := by decide +kernel
theorem dX0_meet_23 : decode cX0_meet 23 = .ok (.iload_n 1, 1) := by decide +kernel
theorem dX0_meet_24 : decode cX0_meet 24 = .ok (.iaload, 1) := by decide +kernel
theorem dX0_meet_25 : decode cX0_meet 25 = .ok (.ifCond .gt 5, 3) := by decide +kernel
theorem dX0_meet_28 : decode cX0_meet 28 = .ok (.iload_n 2, 1) := by decide +kernel
theorem dX0_meet_29 : decode cX0_meet 29 = .ok (.ireturn, 1) := by decide +kernel
theorem dX0_meet_30 : decode cX0_meet 30 = .ok (.aload_n 0, 1) := by decide +kernel
theorem dX0_meet_31 : decode cX0_meet 31 = .ok (.getfield 39, 3) := by decide +kernel
theorem dX0_meet_34 : decode cX0_meet 34 = .ok (.iload_n 1, 1) := by decide +kernel
theorem dX0_meet_35 : decode cX0_meet 35 = .ok (.iconst 1, 1) := by decide +kernel
theorem dX0_meet_36 : decode cX0_meet 36 = .ok (.iastore, 1) := by decide +kernel
theorem dX0_meet_37 : decode cX0_meet 37 = .ok (.aload_n 0, 1) := by decide +kernel
theorem dX0_meet_38 : decode cX0_meet 38 = .ok (.getfield 42, 3) := by decide +kernel
theorem dX0_meet_41 : decode cX0_meet 41 = .ok (.iload_n 2, 1) := by decide +kernel
theorem dX0_meet_42 : decode cX0_meet 42 = .ok (.iload_n 1, 1) := by decide +kernel
theorem dX0_meet_43 : decode cX0_meet 43 = .ok (.iastore, 1) := by decide +kernel
theorem dX0_meet_44 : decode cX0_meet 44 = .ok (.iload_n 2, 1) := by decide +kernel
theorem dX0_meet_45 : decode cX0_meet 45 = .ok (.iconst 1, 1) := by decide +kernel
theorem dX0_meet_46 : decode cX0_meet 46 = .ok (.iadd, 1) := by decide +kernel
theorem dX0_meet_47 : decode cX0_meet 47 = .ok (.ireturn, 1) := by decide +kernel
theorem dX0_neighbourOf_0 : decode cX0_neighbourOf 0 = .ok (.iload_n 0, 1) := by decide +kernel
theorem dX0_neighbourOf_1 : decode cX0_neighbourOf 1 = .ok (.bipush 8, 2) := by decide +kernel
theorem dX0_neighbourOf_3 : decode cX0_neighbourOf 3 = .ok (.irem, 1) := by decide +kernel
theorem dX0_neighbourOf_4 : decode cX0_neighbourOf 4 = .ok (.istore_n 2, 1) := by decide +kernel
theorem dX0_neighbourOf_5 : decode cX0_neighbourOf 5 = .ok (.iload_n 0, 1) := by decide +kernel
theorem dX0_neighbourOf_6 : decode cX0_neighbourOf 6 = .ok (.bipush 8, 2) := by decide +kernel
theorem dX0_neighbourOf_8 : decode cX0_neighbourOf 8 = .ok (.idiv, 1) := by decide +kernel
theorem dX0_neighbourOf_9 : decode cX0_neighbourOf 9 = .ok (.istore_n 3, 1) := by decide +kernel
theorem dX0_neighbourOf_10 : decode cX0_neighbourOf 10 = .ok (.iload_n 1, 1) := by decide +kernel
theorem dX0_neighbourOf_11 : decode cX0_neighbourOf 11 = .ok (.tableswitch 64 0 2 #[25, 37, 51], 25) := by decide +kernel
theorem dX0_neighbourOf_36 : decode cX0_neighbourOf 36 = .ok (.iload_n 2, 1) := by decide +kernel
theorem dX0_neighbourOf_37 : decode cX0_neighbourOf 37 = .ok (.ifCond .le 9, 3) := by decide +kernel
theorem dX0_neighbourOf_40 : decode cX0_neighbourOf 40 = .ok (.iload_n 0, 1) := by decide +kernel
theorem dX0_neighbourOf_41 : decode cX0_neighbourOf 41 = .ok (.iconst 1, 1) := by decide +kernel
theorem dX0_neighbourOf_42 : decode cX0_neighbourOf 42 = .ok (.isub, 1) := by decide +kernel
theorem dX0_neighbourOf_43 : decode cX0_neighbourOf 43 = .ok (.goto 4, 3) := by decide +kernel
theorem dX0_neighbourOf_46 : decode cX0_neighbourOf 46 = .ok (.iconst (-1), 1) := by decide +kernel
theorem dX0_neighbourOf_47 : decode cX0_neighbourOf 47 = .ok (.ireturn, 1) := by decide +kernel
theorem dX0_neighbourOf_48 : decode cX0_neighbourOf 48 = .ok (.iload_n 2, 1) := by decide +kernel
theorem dX0_neighbourOf_49 : decode cX0_neighbourOf 49 = .ok (.bipush 7, 2) := by decide +kernel
theorem dX0_neighbourOf_51 : decode cX0_neighbourOf 51 = .ok (.if_icmp .ge 9, 3) := by decide +kernel
theorem dX0_neighbourOf_54 : decode cX0_neighbourOf 54 = .ok (.iload_n 0, 1) := by decide +kernel
theorem dX0_neighbourOf_55 : decode cX0_neighbourOf 55 = .ok (.iconst 1, 1) := by decide +kernel
theorem dX0_neighbourOf_56 : decode cX0_neighbourOf 56 = .ok (.iadd, 1) := by decide +kernel
theorem dX0_neighbourOf_57 : decode cX0_neighbourOf 57 = .ok (.goto 4, 3) := by decide +kernel
theorem dX0_neighbourOf_60 : decode cX0_neighbourOf 60 = .ok (.iconst (-1), 1) := by decide +kernel
theorem dX0_neighbourOf_61 : decode cX0_neighbourOf 61 = .ok (.ireturn, 1) := by decide +kernel
theorem dX0_neighbourOf_62 : decode cX0_neighbourOf 62 = .ok (.iload_n 3, 1) := by decide +kernel
theorem dX0_neighbourOf_63 : decode cX0_neighbourOf 63 = .ok (.ifCond .le 10, 3) := by decide +kernel
theorem dX0_neighbourOf_66 : decode cX0_neighbourOf 66 = .ok (.iload_n 0, 1) := by decide +kernel
theorem dX0_neighbourOf_67 : decode cX0_neighbourOf 67 = .ok (.bipush 8, 2) := by decide +kernel
theorem dX0_neighbourOf_69 : decode cX0_neighbourOf 69 = .ok (.isub, 1) := by decide +kernel
theorem dX0_neighbourOf_70 : decode cX0_neighbourOf 70 = .ok (.goto 4, 3) := by decide +kernel
theorem dX0_neighbourOf_73 : decode cX0_neighbourOf 73 = .ok (.iconst (-1), 1) := by decide +kernel
theorem dX0_neighbourOf_74 : decode cX0_neighbourOf 74 = .ok (.ireturn, 1) := by decide +kernel
theorem dX0_neighbourOf_75 : decode cX0_neighbourOf 75 = .ok (.iload_n 3, 1) := by decide +kernel
theorem dX0_neighbourOf_76 : decode cX0_neighbourOf 76 = .ok (.bipush 7, 2) := by decide +kernel
theorem dX0_neighbourOf_78 : decode cX0_neighbourOf 78 = .ok (.if_icmp .ge 10, 3) := by decide +kernel
theorem dX0_neighbourOf_81 : decode cX0_neighbourOf 81 = .ok (.iload_n 0, 1) := by decide +kernel
theorem dX0_neighbourOf_82 : decode cX0_neighbourOf 82 = .ok (.bipush 8, 2) := by decide +kernel
theorem dX0_neighbourOf_84 : decode cX0_neighbourOf 84 = .ok (.iadd, 1) := by decide +kernel
theorem dX0_neighbourOf_85 : decode cX0_neighbourOf 85 = .ok (.goto 4, 3) := by decide +kernel
theorem dX0_neighbourOf_88 : decode cX0_neighbourOf 88 = .ok (.iconst (-1), 1) := by decide +kernel
theorem dX0_neighbourOf_89 : decode cX0_neighbourOf 89 = .ok (.ireturn, 1) := by decide +kernel
end
section
/-! contracts over worlds in one form: what is there before, what is there behind, and what the answer is -/
def ct_Pc (D : va_G) (As : List Value) (wc : va_W) (tys : List (ClassId × FieldType)) (sz : Nat) : Array Value → State → Prop := va_Pc As (fun U => U.heap.size = sz ∧ va_P D vwCl wc U.heap ∧ va_K D vwCl tys U ∧ va_D (fun _ => True) wc)
def ct_B {S : Type} (D : va_G) (tys : List (ClassId × FieldType)) (A : Nat → Prop) (wo : S → va_W) (u : S) (t : State) : Prop := va_P D vwCl (wo u) t.heap ∧ va_K D vwCl tys t ∧ va_D A (wo u)
abbrev ct_Qi {S : Type} (D : va_G) (tys : List (ClassId × FieldType)) (post : Int32 → S → Prop) (wo : S → va_W) (A : Nat → Prop) : Array Value → State → Outcome → State → Prop := va_Qi post (ct_B D tys A wo) A
def ct_i {S : Type} (l : Launch) (D : va_G) (y : MethodName) (ws : List Cond) (rm : Room) (As : List Value) (wc : va_W) (tys : List (ClassId × FieldType)) (post : Int32 → S → Prop) (wo : S → va_W) : Prop := ∀ sz : Nat, Met l y ws rm (ct_Pc D As wc tys sz) (ct_Qi D tys post wo (va_A wc sz)) rm.cells rm.slots (va_A wc sz)
def ct_Bi {S : Type} (l : Launch) (D : va_G) (y : MethodName) (ws : List Cond) (rm : Room) (cc : ByteArray) (maxL : Nat) (As : List Value) (wc : va_W) (tys : List (ClassId × FieldType)) (post : Int32 → S → Prop) (wo : S → va_W) : Prop :=
  ∀ (p : Program) (e : Env) (s : State) (m : MethodId) (args : Array Value) (below : List Frame) (meth : Method) (c : Code) (A : Nat → Prop) (Q : State → Prop), p.tables.exec = Jvm.exec → c.code = cc → c.maxLocals = maxL → s.vm.findClass y.cls = some m.cls → (∀ w ∈ ws, w.before args s = true) → meth.name = y.name → (∀ q : Nat, s.heap.size ≤ q → A q) →
    va_K D vwCl tys s → ∀ (H : Heap) (locs : List Loc), va_P D vwCl wc H → va_D A wc → va_S A s.heap H locs →
    (∀ (v : Int32) (u : S) (H : Heap) (locs : List Loc) (cells slots pc : Nat) (ls : Array Slot), decode cc pc = .ok (.ireturn, 1) → post v u → va_P D vwCl (wo u) H → va_D A (wo u) → va_S A s.heap H locs → cells ≤ rm.cells → slots ≤ rm.slots → W p l e rm s m args below meth c H locs cells slots Q (F0 m pc ls [.int v])) →
    ∀ ls : Array Slot, lv_has ls maxL (lv_args 0 As) → W p l e rm s m args below meth c H locs 0 0 Q (F0 m 0 ls [])
theorem ct_ofi {S : Type} {l : Launch} {D : va_G} {y : MethodName} {ws ws' : List Cond} {rm : Room} {cc : ByteArray} {maxL : Nat} {As : List Value} {wc : va_W} {tys : List (ClassId × FieldType)} {post : Int32 → S → Prop} {wo : S → va_W}
    (hy : plainName y.cls = true) (hw : ws = Cond.code y cc maxL (some .int) :: ws') (hln : (lg_sl As).length ≤ maxL) (body : ct_Bi l D y ws rm cc maxL As wc tys post wo) : ct_i l D y ws rm As wc tys post wo := by
  intro sz
  refine Met.ofW (cc := cc) (maxL := maxL) (ret := (some .int)) hy hw ?_
  intro p e s m args below meth c s₁ B hml hv
  obtain ⟨rfl, hsz, hP, hK, hD0⟩ := hv
  subst hsz
  have hD := hD0.self (sz := s.heap.size)
  have hl := lv_entry As (n := maxL) hln
  rw [lg_entry_eq]
  have hx := B.exec
  have hb := B.bytes
  have hr := B.returns
  have hlocks := B.notSynchronized
  exact body p e s m As.toArray below meth c (va_A wc s.heap.size) _ hx hb hml (findClass_of_methodNamed B.named) (atoms_spec (ws := ws) B.pre) (name_of_methodNamed B.named B.method).1 (fun q h => Or.inr h) hK s.heap [] hP hD va_S.rf
    (fun v u H locs cells slots pc ls hdg hq hP hD hS hc hs => W.widen hc hs (W.iret (v := v) hx hb hr (fun t ht hW => ⟨⟨v, u, rfl, hq, by rw [ht]; exact hP, va_K.moved hW.alike hK, hD⟩, hS.F ht⟩) hS.2.2 hdg hlocks)) _ hl
abbrev ct_Ql {S : Type} (D : va_G) (tys : List (ClassId × FieldType)) (post : Int64 → S → Prop) (wo : S → va_W) (A : Nat → Prop) : Array Value → State → Outcome → State → Prop := va_Ql post (ct_B D tys A wo) A
def ct_l {S : Type} (l : Launch) (D : va_G) (y : MethodName) (ws : List Cond) (rm : Room) (As : List Value) (wc : va_W) (tys : List (ClassId × FieldType)) (post : Int64 → S → Prop) (wo : S → va_W) : Prop := ∀ sz : Nat, Met l y ws rm (ct_Pc D As wc tys sz) (ct_Ql D tys post wo (va_A wc sz)) rm.cells rm.slots (va_A wc sz)
def ct_Bl {S : Type} (l : Launch) (D : va_G) (y : MethodName) (ws : List Cond) (rm : Room) (cc : ByteArray) (maxL : Nat) (As : List Value) (wc : va_W) (tys : List (ClassId × FieldType)) (post : Int64 → S → Prop) (wo : S → va_W) : Prop :=
  ∀ (p : Program) (e : Env) (s : State) (m : MethodId) (args : Array Value) (below : List Frame) (meth : Method) (c : Code) (A : Nat → Prop) (Q : State → Prop), p.tables.exec = Jvm.exec → c.code = cc → c.maxLocals = maxL → s.vm.findClass y.cls = some m.cls → (∀ w ∈ ws, w.before args s = true) → meth.name = y.name → (∀ q : Nat, s.heap.size ≤ q → A q) →
    va_K D vwCl tys s → ∀ (H : Heap) (locs : List Loc), va_P D vwCl wc H → va_D A wc → va_S A s.heap H locs →
    (∀ (v : Int64) (u : S) (H : Heap) (locs : List Loc) (cells slots pc : Nat) (ls : Array Slot), decode cc pc = .ok (.lreturn, 1) → post v u → va_P D vwCl (wo u) H → va_D A (wo u) → va_S A s.heap H locs → cells ≤ rm.cells → slots ≤ rm.slots → W p l e rm s m args below meth c H locs cells slots Q (F0 m pc ls [.long v])) →
    ∀ ls : Array Slot, lv_has ls maxL (lv_args 0 As) → W p l e rm s m args below meth c H locs 0 0 Q (F0 m 0 ls [])
theorem ct_ofl {S : Type} {l : Launch} {D : va_G} {y : MethodName} {ws ws' : List Cond} {rm : Room} {cc : ByteArray} {maxL : Nat} {As : List Value} {wc : va_W} {tys : List (ClassId × FieldType)} {post : Int64 → S → Prop} {wo : S → va_W}
    (hy : plainName y.cls = true) (hw : ws = Cond.code y cc maxL (some .long) :: ws') (hln : (lg_sl As).length ≤ maxL) (body : ct_Bl l D y ws rm cc maxL As wc tys post wo) : ct_l l D y ws rm As wc tys post wo := by
  intro sz
  refine Met.ofW (cc := cc) (maxL := maxL) (ret := (some .long)) hy hw ?_
  intro p e s m args below meth c s₁ B hml hv
  obtain ⟨rfl, hsz, hP, hK, hD0⟩ := hv
  subst hsz
  have hD := hD0.self (sz := s.heap.size)
  have hl := lv_entry As (n := maxL) hln
  rw [lg_entry_eq]
  have hx := B.exec
  have hb := B.bytes
  have hr := B.returns
  have hlocks := B.notSynchronized
  exact body p e s m As.toArray below meth c (va_A wc s.heap.size) _ hx hb hml (findClass_of_methodNamed B.named) (atoms_spec (ws := ws) B.pre) (name_of_methodNamed B.named B.method).1 (fun q h => Or.inr h) hK s.heap [] hP hD va_S.rf
    (fun v u H locs cells slots pc ls hdg hq hP hD hS hc hs => W.widen hc hs (W.lret (v := v) hx hb hr (fun t ht hW => ⟨⟨v, u, rfl, hq, by rw [ht]; exact hP, va_K.moved hW.alike hK, hD⟩, hS.F ht⟩) hS.2.2 hdg hlocks)) _ hl
abbrev ct_Qv {S : Type} (D : va_G) (tys : List (ClassId × FieldType)) (post : S → Prop) (wo : S → va_W) (A : Nat → Prop) : Array Value → State → Outcome → State → Prop := va_Qv post (ct_B D tys A wo) A
def ct_v {S : Type} (l : Launch) (D : va_G) (y : MethodName) (ws : List Cond) (rm : Room) (As : List Value) (wc : va_W) (tys : List (ClassId × FieldType)) (post : S → Prop) (wo : S → va_W) : Prop := ∀ sz : Nat, Met l y ws rm (ct_Pc D As wc tys sz) (ct_Qv D tys post wo (va_A wc sz)) rm.cells rm.slots (va_A wc sz)
def ct_Bv {S : Type} (l : Launch) (D : va_G) (y : MethodName) (ws : List Cond) (rm : Room) (cc : ByteArray) (maxL : Nat) (As : List Value) (wc : va_W) (tys : List (ClassId × FieldType)) (post : S → Prop) (wo : S → va_W) : Prop :=
  ∀ (p : Program) (e : Env) (s : State) (m : MethodId) (args : Array Value) (below : List Frame) (meth : Method) (c : Code) (A : Nat → Prop) (Q : State → Prop), p.tables.exec = Jvm.exec → c.code = cc → c.maxLocals = maxL → s.vm.findClass y.cls = some m.cls → (∀ w ∈ ws, w.before args s = true) → meth.name = y.name → (∀ q : Nat, s.heap.size ≤ q → A q) →
    va_K D vwCl tys s → ∀ (H : Heap) (locs : List Loc), va_P D vwCl wc H → va_D A wc → va_S A s.heap H locs →
    (∀ (u : S) (H : Heap) (locs : List Loc) (cells slots pc : Nat) (ls : Array Slot), decode cc pc = .ok (.return_, 1) → post u → va_P D vwCl (wo u) H → va_D A (wo u) → va_S A s.heap H locs → cells ≤ rm.cells → slots ≤ rm.slots → W p l e rm s m args below meth c H locs cells slots Q (F0 m pc ls [])) →
    ∀ ls : Array Slot, lv_has ls maxL (lv_args 0 As) → W p l e rm s m args below meth c H locs 0 0 Q (F0 m 0 ls [])
theorem ct_ofv {S : Type} {l : Launch} {D : va_G} {y : MethodName} {ws ws' : List Cond} {rm : Room} {cc : ByteArray} {maxL : Nat} {As : List Value} {wc : va_W} {tys : List (ClassId × FieldType)} {post : S → Prop} {wo : S → va_W}
    (hy : plainName y.cls = true) (hw : ws = Cond.code y cc maxL none :: ws') (hln : (lg_sl As).length ≤ maxL) (body : ct_Bv l D y ws rm cc maxL As wc tys post wo) : ct_v l D y ws rm As wc tys post wo := by
  intro sz
  refine Met.ofW (cc := cc) (maxL := maxL) (ret := none) hy hw ?_
  intro p e s m args below meth c s₁ B hml hv
  obtain ⟨rfl, hsz, hP, hK, hD0⟩ := hv
  subst hsz
  have hD := hD0.self (sz := s.heap.size)
  have hl := lv_entry As (n := maxL) hln
  rw [lg_entry_eq]
  have hx := B.exec
  have hb := B.bytes
  have hr := B.returns
  have hlocks := B.notSynchronized
  exact body p e s m As.toArray below meth c (va_A wc s.heap.size) _ hx hb hml (findClass_of_methodNamed B.named) (atoms_spec (ws := ws) B.pre) (name_of_methodNamed B.named B.method).1 (fun q h => Or.inr h) hK s.heap [] hP hD va_S.rf
    (fun u H locs cells slots pc ls hdg hq hP hD hS hc hs => W.widen hc hs (W.vret hx hb hr (fun t ht hW => ⟨⟨u, rfl, hq, by rw [ht]; exact hP, va_K.moved hW.alike hK, hD⟩, hS.F ht⟩) hS.2.2 hdg hlocks)) _ hl
theorem ct_ofiF {S : Type} {l : Launch} {D : va_G} {y : MethodName} {ws ws' : List Cond} {rm : Room} {cc : ByteArray} {maxL : Nat} {As : List Value} {wc : va_W} {tys : List (ClassId × FieldType)} {post : Int32 → S → Prop} {wo : S → va_W}
    (hy : plainFor y = true) (hw : ws = Cond.code y cc maxL (some .int) :: ws') (hln : (lg_sl As).length ≤ maxL) (body : ct_Bi l D y ws rm cc maxL As wc tys post wo) : ct_i l D y ws rm As wc tys post wo := by
  intro sz
  refine va_MetF (cc := cc) (maxL := maxL) (ret := (some .int)) hy hw ?_
  intro p e s m args below meth c s₁ B hml hv
  obtain ⟨rfl, hsz, hP, hK, hD0⟩ := hv
  subst hsz
  have hD := hD0.self (sz := s.heap.size)
  have hl := lv_entry As (n := maxL) hln
  rw [lg_entry_eq]
  have hx := B.exec
  have hb := B.bytes
  have hr := B.returns
  have hlocks := B.notSynchronized
  exact body p e s m As.toArray below meth c (va_A wc s.heap.size) _ hx hb hml (findClass_of_methodNamed B.named) (atoms_spec (ws := ws) B.pre) (name_of_methodNamed B.named B.method).1 (fun q h => Or.inr h) hK s.heap [] hP hD va_S.rf
    (fun v u H locs cells slots pc ls hdg hq hP hD hS hc hs => W.widen hc hs (W.iret (v := v) hx hb hr (fun t ht hW => ⟨⟨v, u, rfl, hq, by rw [ht]; exact hP, va_K.moved hW.alike hK, hD⟩, hS.F ht⟩) hS.2.2 hdg hlocks)) _ hl
/-- how a callee's world lies in the caller's: its places, the rest's places, and the order that the caller wants behind the call -/
def ct_Cut (ws wc wr : va_W) (isC isR : List Nat) : Prop := isC.map (fun i => ws[i]?) = wc.map some ∧ isR.map (fun i => ws[i]?) = wr.map some ∧ va_nd isC = true ∧ va_nd isR = true ∧ (isR.all (fun i => !isC.contains i)) = true
theorem ct_frameblind {D : va_G} {As : List Value} {wc : va_W} {tys : List (ClassId × FieldType)} {sz : Nat} : FrameBlind (ct_Pc D As wc tys sz) := by
  intro a U g mk q
  obtain ⟨q0, q1, qP, qK, qD⟩ := q
  exact ⟨q0, q1, qP, va_K.moved (u := U) (U := U.calling g mk a) (Vm.Alike.refl U.vm) qK, qD⟩
theorem ct_mapfm {ws wc : va_W} {isC : List Nat} (h : isC.map (fun i => ws[i]?) = wc.map some) : isC.filterMap (fun i => ws[i]?) = wc := by
  have e : isC.filterMap (fun i => ws[i]?) = (isC.map (fun i => ws[i]?)).filterMap id := by rw [List.filterMap_map]; rfl
  rw [e, h, List.filterMap_map]
  exact List.filterMap_some
section CTC
variable {p : Program} {l : Launch} {e : Env} {R : Room} {s : State} {m : MethodId} {args : Array Value} {below : List Frame} {meth : Method} {c : Code} {H : Heap} {locs : List Loc} {cells slots : Nat} {Q : State → Prop}
variable {pc : Nat} {ls : Array Slot} {cc : ByteArray} {D : va_G} {tysW tys : List (ClassId × FieldType)} {A : Nat → Prop} {S : Type} {wo : S → va_W} {y : MethodName} {bytes : ByteArray} {maxL nL n index : Nat} {ret : Option FieldType} {wsy : List Cond} {rm : Room} {Ts : List Cond} {own C : String} {b : Addr} {As rest st : List Value} {W0 wc wr : va_W} {W1 : S → va_W}
theorem ct_pre (hK : va_K D vwCl tysW s) (hP : va_P D vwCl W0 H) (hD : va_D A W0) {isC isR : List Nat} (hcut : ct_Cut W0 wc wr isC isR) (ist : List Nat) (hty : ist.filterMap (fun i => tysW[i]?) = tys) {Bs : List Value} : PreS s H (ct_Pc D Bs wc tys H.size) Bs :=
  ⟨ct_frameblind, fun U hU hW => ⟨rfl, by rw [hU], by rw [hU]; exact hP.sub isC (ct_mapfm hcut.1), va_K.moved hW.alike (hK.sub ist hty), (hD.sub isC hcut.2.2.1 hcut.1).weaken (fun _ _ _ _ => trivial)⟩⟩
theorem ct_back {H1 : Heap} {t : State} {u : S} (hP : va_P D vwCl W0 H) (hD : va_D A W0) (hS : va_S A s.heap H locs) (hA : ∀ q : Nat, s.heap.size ≤ q → A q) {isC isR : List Nat} (hcut : ct_Cut W0 wc wr isC isR) (perm : List Nat) (hnp : va_nd perm = true) (hperm : perm.map (fun i => (wr ++ wo u)[i]?) = (W1 u).map some)
    (ht : t.heap = H1) (hk : ∀ q : Nat, q < H.size → ¬ va_A wc H.size q → H1[q]? = H[q]?) (hB : ct_B D tys (va_A wc H.size) wo u t) : va_P D vwCl (W1 u) H1 ∧ va_D A (W1 u) := by
  obtain ⟨hP1, hK1, hD1⟩ := hB
  rw [ht] at hP1
  obtain ⟨hP2, hD2⟩ := va_join hP hD isC isR hcut.1 hcut.2.1 hcut.2.2.2.1 (fun i hi hc => by
    have h2 := List.all_eq_true.mp hcut.2.2.2.2 i hi
    simp at h2
    exact h2 hc) hk (va_free hD hS hA isC hcut.1) hP1 hD1
  exact ⟨hP2.sub perm (ct_mapfm hperm), hD2.sub perm hnp hperm⟩
/-- a virtual call that makes nothing and returns an int -/
theorem ct_Vi {post : Int32 → S → Prop} (F : CallFix p m c cc nL s args Ts own) (hC : ct_i l D y wsy rm (.ref b :: As) wc tys post wo) (cw : CallW R s args own C index y bytes maxL ret wsy rm rm.cells rm.slots n) (hK : va_K D vwCl tysW s) (hP : va_P D vwCl W0 H) (hD : va_D A W0) (hS : va_S A s.heap H locs) (hA : ∀ q : Nat, s.heap.size ≤ q → A q)
    (isC isR : List Nat) (hcut : ct_Cut W0 wc wr isC isR) (perm : List Nat) (hnp : va_nd perm = true) (hperm : ∀ u : S, perm.map (fun i => (wr ++ wo u)[i]?) = (W1 u).map some) (ist : List Nat) (hty : ist.filterMap (fun i => tysW[i]?) = tys)
    (hrecv : ∃ cell : Cell, H[b]? = some cell ∧ cell.vm.isStatics = false ∧ s.vm.findClass C = some cell.cls) (hn : As.length = n) (hsize : ls.size = nL) (hst : st = As.reverse ++ .ref b :: rest) (hroom : (rest.map fun v => v.category).sum ≤ 8) {cells1 slots1 : Nat} (hc9 : cells + rm.cells = cells1) (hs9 : slots + rm.slots = slots1) (hf : cells1 ≤ R.cells ∧ slots1 ≤ R.slots) (hdg : decode cc pc = .ok (.invokevirtual index, 3))
    (kk : ∀ (r : Int32) (u : S) (H1 : Heap) (locs1 : List Loc), post r u → va_P D vwCl (W1 u) H1 → va_D A (W1 u) → va_S A s.heap H1 locs1 → W p l e R s m args below meth c H1 locs1 cells1 slots1 Q (F0 m (pc + 3) ls (.int r :: rest))) :
    W p l e R s m args below meth c H locs cells slots Q (F0 m pc ls st) := by
  subst hst
  subst hc9
  subst hs9
  have hp := ct_pre (Bs := .ref b :: As) hK hP hD hcut ist hty
  refine va_calli (va_runV (As := As) (rest := rest) F (hC H.size) cw ⟨hp.1, hrecv, hp.2⟩ rfl hn hsize rfl (lv_room hroom) hdg hf) hS (fun q _ h => va_free hD hS hA isC hcut.1 q h) (va_free hD hS hA isC hcut.1) (fun r u t H1 locs1 ht hvm hw hB hz1 hk1 hS1 => ?_)
  obtain ⟨a1, a2⟩ := ct_back hP hD hS hA hcut perm hnp (hperm u) ht hk1 hB
  exact kk r u H1 locs1 hw a1 a2 hS1
theorem ct_Vl {post : Int64 → S → Prop} (F : CallFix p m c cc nL s args Ts own) (hC : ct_l l D y wsy rm (.ref b :: As) wc tys post wo) (cw : CallW R s args own C index y bytes maxL ret wsy rm rm.cells rm.slots n) (hK : va_K D vwCl tysW s) (hP : va_P D vwCl W0 H) (hD : va_D A W0) (hS : va_S A s.heap H locs) (hA : ∀ q : Nat, s.heap.size ≤ q → A q)
    (isC isR : List Nat) (hcut : ct_Cut W0 wc wr isC isR) (perm : List Nat) (hnp : va_nd perm = true) (hperm : ∀ u : S, perm.map (fun i => (wr ++ wo u)[i]?) = (W1 u).map some) (ist : List Nat) (hty : ist.filterMap (fun i => tysW[i]?) = tys)
    (hrecv : ∃ cell : Cell, H[b]? = some cell ∧ cell.vm.isStatics = false ∧ s.vm.findClass C = some cell.cls) (hn : As.length = n) (hsize : ls.size = nL) (hst : st = As.reverse ++ .ref b :: rest) (hroom : (rest.map fun v => v.category).sum ≤ 8) {cells1 slots1 : Nat} (hc9 : cells + rm.cells = cells1) (hs9 : slots + rm.slots = slots1) (hf : cells1 ≤ R.cells ∧ slots1 ≤ R.slots) (hdg : decode cc pc = .ok (.invokevirtual index, 3))
    (kk : ∀ (r : Int64) (u : S) (H1 : Heap) (locs1 : List Loc), post r u → va_P D vwCl (W1 u) H1 → va_D A (W1 u) → va_S A s.heap H1 locs1 → W p l e R s m args below meth c H1 locs1 cells1 slots1 Q (F0 m (pc + 3) ls (.long r :: rest))) :
    W p l e R s m args below meth c H locs cells slots Q (F0 m pc ls st) := by
  subst hst
  subst hc9
  subst hs9
  have hp := ct_pre (Bs := .ref b :: As) hK hP hD hcut ist hty
  refine va_calll (va_runV (As := As) (rest := rest) F (hC H.size) cw ⟨hp.1, hrecv, hp.2⟩ rfl hn hsize rfl (lv_room hroom) hdg hf) hS (fun q _ h => va_free hD hS hA isC hcut.1 q h) (va_free hD hS hA isC hcut.1) (fun r u t H1 locs1 ht hvm hw hB hz1 hk1 hS1 => ?_)
  obtain ⟨a1, a2⟩ := ct_back hP hD hS hA hcut perm hnp (hperm u) ht hk1 hB
  exact kk r u H1 locs1 hw a1 a2 hS1
theorem ct_Vv {post : S → Prop} (F : CallFix p m c cc nL s args Ts own) (hC : ct_v l D y wsy rm (.ref b :: As) wc tys post wo) (cw : CallW R s args own C index y bytes maxL ret wsy rm rm.cells rm.slots n) (hK : va_K D vwCl tysW s) (hP : va_P D vwCl W0 H) (hD : va_D A W0) (hS : va_S A s.heap H locs) (hA : ∀ q : Nat, s.heap.size ≤ q → A q)
    (isC isR : List Nat) (hcut : ct_Cut W0 wc wr isC isR) (perm : List Nat) (hnp : va_nd perm = true) (hperm : ∀ u : S, perm.map (fun i => (wr ++ wo u)[i]?) = (W1 u).map some) (ist : List Nat) (hty : ist.filterMap (fun i => tysW[i]?) = tys)
    (hrecv : ∃ cell : Cell, H[b]? = some cell ∧ cell.vm.isStatics = false ∧ s.vm.findClass C = some cell.cls) (hn : As.length = n) (hsize : ls.size = nL) (hst : st = As.reverse ++ .ref b :: rest) (hroom : (rest.map fun v => v.category).sum ≤ 8) {cells1 slots1 : Nat} (hc9 : cells + rm.cells = cells1) (hs9 : slots + rm.slots = slots1) (hf : cells1 ≤ R.cells ∧ slots1 ≤ R.slots) (hdg : decode cc pc = .ok (.invokevirtual index, 3))
    (kk : ∀ (u : S) (H1 : Heap) (locs1 : List Loc), post u → va_P D vwCl (W1 u) H1 → va_D A (W1 u) → va_S A s.heap H1 locs1 → W p l e R s m args below meth c H1 locs1 cells1 slots1 Q (F0 m (pc + 3) ls rest)) :
    W p l e R s m args below meth c H locs cells slots Q (F0 m pc ls st) := by
  subst hst
  subst hc9
  subst hs9
  have hp := ct_pre (Bs := .ref b :: As) hK hP hD hcut ist hty
  refine va_callv (va_runV (As := As) (rest := rest) F (hC H.size) cw ⟨hp.1, hrecv, hp.2⟩ rfl hn hsize rfl (lv_room hroom) hdg hf) hS (fun q _ h => va_free hD hS hA isC hcut.1 q h) (va_free hD hS hA isC hcut.1) (fun u t H1 locs1 ht hvm hw hB hz1 hk1 hS1 => ?_)
  obtain ⟨a1, a2⟩ := ct_back hP hD hS hA hcut perm hnp (hperm u) ht hk1 hB
  exact kk u H1 locs1 hw a1 a2 hS1
theorem ct_Si {post : Int32 → S → Prop} (F : CallFix p m c cc nL s args Ts own) (hC : ct_i l D y wsy rm As wc tys post wo) (cw : CallB R s args own index y bytes maxL ret wsy rm rm.cells rm.slots n ∧ (Cond.static y).before args s = true) (hK : va_K D vwCl tysW s) (hP : va_P D vwCl W0 H) (hD : va_D A W0) (hS : va_S A s.heap H locs) (hA : ∀ q : Nat, s.heap.size ≤ q → A q)
    (isC isR : List Nat) (hcut : ct_Cut W0 wc wr isC isR) (perm : List Nat) (hnp : va_nd perm = true) (hperm : ∀ u : S, perm.map (fun i => (wr ++ wo u)[i]?) = (W1 u).map some) (ist : List Nat) (hty : ist.filterMap (fun i => tysW[i]?) = tys)
    (hn : As.length = n) (hsize : ls.size = nL) (hst : st = As.reverse ++ rest) (hroom : (rest.map fun v => v.category).sum ≤ 8) {cells1 slots1 : Nat} (hc9 : cells + rm.cells = cells1) (hs9 : slots + rm.slots = slots1) (hf : cells1 ≤ R.cells ∧ slots1 ≤ R.slots) (hdg : decode cc pc = .ok (.invokestatic index, 3))
    (kk : ∀ (r : Int32) (u : S) (H1 : Heap) (locs1 : List Loc), post r u → va_P D vwCl (W1 u) H1 → va_D A (W1 u) → va_S A s.heap H1 locs1 → W p l e R s m args below meth c H1 locs1 cells1 slots1 Q (F0 m (pc + 3) ls (.int r :: rest))) :
    W p l e R s m args below meth c H locs cells slots Q (F0 m pc ls st) := by
  subst hst
  subst hc9
  subst hs9
  have hp := ct_pre (Bs := As) hK hP hD hcut ist hty
  refine va_calli (va_runS (As := As) (rest := rest) F (hC H.size) cw ⟨hp.1, hp.2⟩ rfl hn hsize rfl (lv_room hroom) hdg hf) hS (fun q _ h => va_free hD hS hA isC hcut.1 q h) (va_free hD hS hA isC hcut.1) (fun r u t H1 locs1 ht hvm hw hB hz1 hk1 hS1 => ?_)
  obtain ⟨a1, a2⟩ := ct_back hP hD hS hA hcut perm hnp (hperm u) ht hk1 hB
  exact kk r u H1 locs1 hw a1 a2 hS1
theorem ct_Sv {post : S → Prop} (F : CallFix p m c cc nL s args Ts own) (hC : ct_v l D y wsy rm As wc tys post wo) (cw : CallB R s args own index y bytes maxL ret wsy rm rm.cells rm.slots n ∧ (Cond.static y).before args s = true) (hK : va_K D vwCl tysW s) (hP : va_P D vwCl W0 H) (hD : va_D A W0) (hS : va_S A s.heap H locs) (hA : ∀ q : Nat, s.heap.size ≤ q → A q)
    (isC isR : List Nat) (hcut : ct_Cut W0 wc wr isC isR) (perm : List Nat) (hnp : va_nd perm = true) (hperm : ∀ u : S, perm.map (fun i => (wr ++ wo u)[i]?) = (W1 u).map some) (ist : List Nat) (hty : ist.filterMap (fun i => tysW[i]?) = tys)
    (hn : As.length = n) (hsize : ls.size = nL) (hst : st = As.reverse ++ rest) (hroom : (rest.map fun v => v.category).sum ≤ 8) {cells1 slots1 : Nat} (hc9 : cells + rm.cells = cells1) (hs9 : slots + rm.slots = slots1) (hf : cells1 ≤ R.cells ∧ slots1 ≤ R.slots) (hdg : decode cc pc = .ok (.invokestatic index, 3))
    (kk : ∀ (u : S) (H1 : Heap) (locs1 : List Loc), post u → va_P D vwCl (W1 u) H1 → va_D A (W1 u) → va_S A s.heap H1 locs1 → W p l e R s m args below meth c H1 locs1 cells1 slots1 Q (F0 m (pc + 3) ls rest)) :
    W p l e R s m args below meth c H locs cells slots Q (F0 m pc ls st) := by
  subst hst
  subst hc9
  subst hs9
  have hp := ct_pre (Bs := As) hK hP hD hcut ist hty
  refine va_callv (va_runS (As := As) (rest := rest) F (hC H.size) cw ⟨hp.1, hp.2⟩ rfl hn hsize rfl (lv_room hroom) hdg hf) hS (fun q _ h => va_free hD hS hA isC hcut.1 q h) (va_free hD hS hA isC hcut.1) (fun u t H1 locs1 ht hvm hw hB hz1 hk1 hS1 => ?_)
  obtain ⟨a1, a2⟩ := ct_back hP hD hS hA hcut perm hnp (hperm u) ht hk1 hB
  exact kk u H1 locs1 hw a1 a2 hS1
theorem ct_Iv {post : S → Prop} (F : CallFix p m c cc nL s args Ts own) (hC : ct_v l D y wsy rm (.ref b :: As) wc tys post wo) (cw : CallB R s args own index y bytes maxL none wsy rm rm.cells rm.slots n ∧ y.name = "<init>" ∧ (Cond.instanceMethod y).before args s = true) (hK : va_K D vwCl tysW s) (hP : va_P D vwCl W0 H) (hD : va_D A W0) (hS : va_S A s.heap H locs) (hA : ∀ q : Nat, s.heap.size ≤ q → A q)
    (isC isR : List Nat) (hcut : ct_Cut W0 wc wr isC isR) (perm : List Nat) (hnp : va_nd perm = true) (hperm : ∀ u : S, perm.map (fun i => (wr ++ wo u)[i]?) = (W1 u).map some) (ist : List Nat) (hty : ist.filterMap (fun i => tysW[i]?) = tys)
    (hn : As.length = n) (hsize : ls.size = nL) (hst : st = As.reverse ++ .ref b :: rest) (hroom : (rest.map fun v => v.category).sum ≤ 8) {cells1 slots1 : Nat} (hc9 : cells + rm.cells = cells1) (hs9 : slots + rm.slots = slots1) (hf : cells1 ≤ R.cells ∧ slots1 ≤ R.slots) (hdg : decode cc pc = .ok (.invokespecial index, 3))
    (kk : ∀ (u : S) (H1 : Heap) (locs1 : List Loc), post u → va_P D vwCl (W1 u) H1 → va_D A (W1 u) → va_S A s.heap H1 locs1 → W p l e R s m args below meth c H1 locs1 cells1 slots1 Q (F0 m (pc + 3) ls rest)) :
    W p l e R s m args below meth c H locs cells slots Q (F0 m pc ls st) := by
  subst hst
  subst hc9
  subst hs9
  have hp := ct_pre (Bs := .ref b :: As) hK hP hD hcut ist hty
  refine va_callv (va_runI (As := As) (rest := rest) F (hC H.size) cw ⟨hp.1, hp.2⟩ rfl hn hsize rfl (lv_room hroom) hdg hf) hS (fun q _ h => va_free hD hS hA isC hcut.1 q h) (va_free hD hS hA isC hcut.1) (fun u t H1 locs1 ht hvm hw hB hz1 hk1 hS1 => ?_)
  obtain ⟨a1, a2⟩ := ct_back hP hD hS hA hcut perm hnp (hperm u) ht hk1 hB
  exact kk u H1 locs1 hw a1 a2 hS1
end CTC
section CTA
variable {p : Program} {l : Launch} {e : Env} {R : Room} {s : State} {m : MethodId} {args : Array Value} {below : List Frame} {meth : Method} {c : Code} {H H0 : Heap} {locs : List Loc} {cells slots : Nat} {Q : State → Prop}
variable {pc : Nat} {ls : Array Slot} {rest : List Value} {cc : ByteArray} {D : va_G} {cl : List vw_C} {tys : List (ClassId × FieldType)} {A : Nat → Prop} {ws : va_W} {a : Nat}
theorem ct_iald (hexec : p.tables.exec = Jvm.exec) (hb : c.code = cc) (hK : va_K D cl tys s) (hP : va_P D cl ws H) (q0 t0 : Nat) {cA : ClassId} {n : Nat} {f : Nat → Int32} (ha : ws[q0]? = some (a, .inl (cA, n, .inl f))) (ht : tys[t0]? = some (cA, .int)) (k : Nat) {i v : Int32} (hi : i = nI k) (hk : k < n) (hn : n < 2 ^ 31) (hv : f k = v) (hdg : decode cc pc = .ok (.iaload, 1))
    (kk : W p l e R s m args below meth c H locs cells slots Q (F0 m (pc + 1) ls (.int v :: rest))) : W p l e R s m args below meth c H locs cells slots Q (F0 m pc ls (.int i :: .ref a :: rest)) := by
  subst hi
  refine va_iald hexec hb hK hP q0 t0 ha ht (vp_in_nI hk hn) hdg ?_
  rw [nI_clamp (Nat.lt_trans hk hn), hv]
  exact kk
theorem ct_iast (hexec : p.tables.exec = Jvm.exec) (hb : c.code = cc) (hK : va_K D cl tys s) (hP : va_P D cl ws H) (hD : va_D A ws) (hS : va_S A H0 H locs) (q0 t0 : Nat) {cA : ClassId} {n : Nat} {f : Nat → Int32} (ha : ws[q0]? = some (a, .inl (cA, n, .inl f))) (ht : tys[t0]? = some (cA, .int)) (k : Nat) {i x : Int32} (hi : i = nI k) (hk : k < n) (hn : n < 2 ^ 31) {g : Nat → Int32} (hg : upd f k x = g) {ws1 : va_W} (hw : ws.set q0 (a, .inl (cA, n, .inl g)) = ws1) (hdg : decode cc pc = .ok (.iastore, 1))
    (kk : ∀ (H1 : Heap) (locs1 : List Loc), va_P D cl ws1 H1 → va_D A ws1 → va_S A H0 H1 locs1 → W p l e R s m args below meth c H1 locs1 cells slots Q (F0 m (pc + 1) ls rest)) : W p l e R s m args below meth c H locs cells slots Q (F0 m pc ls (.int x :: .int i :: .ref a :: rest)) := by
  subst hi
  subst hg
  subst hw
  refine va_iast hexec hb hK hP hD hS q0 t0 ha ht (vp_in_nI hk hn) hdg (fun H1 locs1 h1 h2 h3 => ?_)
  rw [nI_clamp (Nat.lt_trans hk hn)] at h1 h2
  exact kk H1 locs1 h1 h2 h3
/-- a row's contents beyond its length don't matter -/
theorem ct_arr {cA : ClassId} {n : Nat} {f g : Nat → Int32} (h : ∀ j : Nat, j < n → f j = g j) : vp_cell cA (n, .inl f) = vp_cell cA (n, .inl g) := by
  rw [vp_cell_i, vp_cell_i]
  unfold arrV
  have e : (Array.ofFn (n := n) fun j => Value.int (f j.val)) = Array.ofFn (n := n) fun j => Value.int (g j.val) := congrArg _ (funext fun j => by rw [h j.val j.isLt])
  first | rw [e] | simp [e] | (congr 1; simp [e])
theorem ct_ext (hP : va_P D cl ws H) (hD : va_D A ws) (q0 : Nat) {cA : ClassId} {n : Nat} {f : Nat → Int32} (ha : ws[q0]? = some (a, .inl (cA, n, .inl f))) (g : Nat → Int32) (h : ∀ j : Nat, j < n → f j = g j) {ws1 : va_W} (hw : ws.set q0 (a, .inl (cA, n, .inl g)) = ws1) : va_P D cl ws1 H ∧ va_D A ws1 := by
  subst hw
  refine ⟨hP.set hD ha ?_ (fun _ _ => rfl), hD.set ha⟩
  have h1 := hP q0 _ ha
  show H[a]? = some (vp_cell cA (n, .inl g))
  rw [← ct_arr h]
  exact h1
theorem ct_mmax (hexec : p.tables.exec = Jvm.exec) (hb : c.code = cc) (hml : c.maxLocals = ls.size) {own : String} {index : Nat} (hown : s.vm.findClass own = some m.cls) (hlink : (Cond.methodLink own index Lib.Math.max.name).before args s = true) (hstat : (Cond.static Lib.Math.max.name).before args s = true) (hini : (Cond.initialized "java/lang/Math").before args s = true) (hcode : (Cond.code Lib.Math.max.name Lib.Math.max.code 2 (some .int)).before args s = true)
    (hframes : 1 ≤ R.frames) (hlocals : (rest.map fun v => v.category).sum + 13 ≤ R.locals) (hc : cells ≤ R.cells) (hs : slots ≤ R.slots) {x y : Int32} {v : Int32} (hv : (if x < y then y else x) = v) (hdg : decode cc pc = .ok (.invokestatic index, 3))
    (kk : W p l e R s m args below meth c H locs cells slots Q (F0 m (pc + 3) ls (.int v :: rest))) : W p l e R s m args below meth c H locs cells slots Q (F0 m pc ls (.int y :: .int x :: rest)) := by
  subst hv
  exact va_mmax hexec hb hml hown hlink hstat hini hcode hframes hlocals hc hs hdg kk
theorem ct_mmin (hexec : p.tables.exec = Jvm.exec) (hb : c.code = cc) (hml : c.maxLocals = ls.size) {own : String} {index : Nat} (hown : s.vm.findClass own = some m.cls) (hlink : (Cond.methodLink own index Lib.Math.min.name).before args s = true) (hstat : (Cond.static Lib.Math.min.name).before args s = true) (hini : (Cond.initialized "java/lang/Math").before args s = true) (hcode : (Cond.code Lib.Math.min.name Lib.Math.min.code 2 (some .int)).before args s = true)
    (hframes : 1 ≤ R.frames) (hlocals : (rest.map fun v => v.category).sum + 13 ≤ R.locals) (hc : cells ≤ R.cells) (hs : slots ≤ R.slots) {x y : Int32} {v : Int32} (hv : (if y < x then y else x) = v) (hdg : decode cc pc = .ok (.invokestatic index, 3))
    (kk : W p l e R s m args below meth c H locs cells slots Q (F0 m (pc + 3) ls (.int v :: rest))) : W p l e R s m args below meth c H locs cells slots Q (F0 m pc ls (.int y :: .int x :: rest)) := by
  subst hv
  exact va_mmin hexec hb hml hown hlink hstat hini hcode hframes hlocals hc hs hdg kk
theorem ct_irem (hexec : p.tables.exec = Jvm.exec) (hb : c.code = cc) (k d : Nat) {x y : Int32} (hx : x = nI k) (hy : y = nI d) (hk : k < 2 ^ 31) (h0 : 0 < d) (hd : d < 2 ^ 31) (hdg : decode cc pc = .ok (.irem, 1))
    (kk : W p l e R s m args below meth c H locs cells slots Q (F0 m (pc + 1) ls (.int (nI (k % d)) :: rest))) : W p l e R s m args below meth c H locs cells slots Q (F0 m pc ls (.int y :: .int x :: rest)) := by
  subst hx
  subst hy
  refine lv_irem hexec hb hdg (nI_ne0 h0 hd) ?_
  rw [pk_rem hk h0 hd]
  exact kk
theorem ct_idiv (hexec : p.tables.exec = Jvm.exec) (hb : c.code = cc) (k d : Nat) {x y : Int32} (hx : x = nI k) (hy : y = nI d) (hk : k < 2 ^ 31) (h0 : 0 < d) (hd : d < 2 ^ 31) (hdg : decode cc pc = .ok (.idiv, 1))
    (kk : W p l e R s m args below meth c H locs cells slots Q (F0 m (pc + 1) ls (.int (nI (k / d)) :: rest))) : W p l e R s m args below meth c H locs cells slots Q (F0 m pc ls (.int y :: .int x :: rest)) := by
  subst hx
  subst hy
  refine lv_idiv hexec hb hdg (nI_ne0 h0 hd) ?_
  rw [pk_div hk h0 hd]
  exact kk
/-- the number on the stack by another name -/
theorem ct_top {x y : Int32} (h : x = y) (kk : W p l e R s m args below meth c H locs cells slots Q (F0 m pc ls (.int y :: rest))) : W p l e R s m args below meth c H locs cells slots Q (F0 m pc ls (.int x :: rest)) := by
  subst h
  exact kk
/-- an int row's class is one alone -/
theorem ct_one {cA cI : ClassId} (h1 : va_K D cl tys s) (t0 : Nat) (ht : tys[t0]? = some (cI, .int)) (h2 : va_K D cl (tys ++ [(cA, .int)]) s) : cA = cI := by
  have a1 : s.vm.findClass _ = some cI := (h1.2 t0 _ ht).2
  have h3 : (tys ++ [(cA, FieldType.int)])[tys.length]? = some (cA, .int) := by simp
  have a2 : s.vm.findClass _ = some cA := (h2.2 tys.length _ h3).2
  exact Option.some.inj (a2.symm.trans a1)
theorem ct_newa (hexec : p.tables.exec = Jvm.exec) (hb : c.code = cc) (harr : (Cond.arrayClass .int).before args s = true) {cI : ClassId} (t0 : Nat) (ht : tys[t0]? = some (cI, .int)) (hK : va_K D cl tys s) (hP : va_P D cl ws H) (hD : va_D A ws) (hS : va_S A H0 H locs) (hA : ∀ q, H0.size ≤ q → A q)
    {n : Int32} (N : Nat) (hn : n = nI N) (hN : N < 1000) {cells1 slots1 : Nat} (hc9 : cells + 1 = cells1) (hs9 : slots + N = slots1) (hcells : cells1 ≤ R.cells) (hslots : slots1 ≤ R.slots) (hdg : decode cc pc = .ok (.newarray .int, 2))
    (kk : ∀ (q : Nat) (H1 : Heap), va_P D cl (ws ++ [(q, .inl (cI, N, .inl (fun _ => 0)))]) H1 → va_D A (ws ++ [(q, .inl (cI, N, .inl (fun _ => 0)))]) → va_S A H0 H1 locs →
      W p l e R s m args below meth c H1 locs cells1 slots1 Q (F0 m (pc + 2) ls (.ref q :: rest))) : W p l e R s m args below meth c H locs cells slots Q (F0 m pc ls (.int n :: rest)) := by
  subst hn
  subst hc9
  subst hs9
  refine va_newa (atype := .int) (N' := N) (a0 := (N, .inl (fun _ => 0))) hexec hb harr rfl hK hP hD hS hA (fun cA => rfl) (nI_pos (by omega)) (nI_clamp (by omega)) (by show N * 4 ≤ 536870912; omega) hcells hslots hdg (fun q cA H1 hK1 hP1 hD1 hS1 => ?_)
  obtain rfl := ct_one hK t0 ht hK1
  exact kk q H1 hP1 hD1 hS1
theorem ct_copy (hexec : p.tables.exec = Jvm.exec) (hb : c.code = cc) (hml : c.maxLocals = ls.size) {own : String} {index : Nat} (hown : s.vm.findClass own = some m.cls) (hlink : (Cond.methodLink own index arraycopyName).before args s = true) (hnat : (Cond.native arraycopyName).before args s = true) (hstat : (Cond.static arraycopyName).before args s = true) (hini : (Cond.initialized "java/lang/System").before args s = true)
    (hK : va_K D cl tys s) (hP : va_P D cl ws H) (hD : va_D A ws) (hS : va_S A H0 H locs) (q0 q1 t0 : Nat) {a0 : Nat} {cA : ClassId} {n : Nat} {f g : Nat → Int32} (ha0 : ws[q0]? = some (a0, .inl (cA, n, .inl f))) (ha1 : ws[q1]? = some (a, .inl (cA, n, .inl g))) (ht : tys[t0]? = some (cA, .int)) {x : Int32} (hx : x = nI n) (hn : n < 2 ^ 31)
    (hframes : 1 ≤ R.frames) (hlocals : (rest.map fun v => v.category).sum + (nativeFrameWords "java/lang/System" "arraycopy" 5 + 11) ≤ R.locals) {ws1 : va_W} (hw : ws.set q1 (a, .inl (cA, n, .inl f)) = ws1) (hdg : decode cc pc = .ok (.invokestatic index, 3))
    (kk : ∀ (H1 : Heap) (locs1 : List Loc), va_P D cl ws1 H1 → va_D A ws1 → va_S A H0 H1 locs1 → W p l e R s m args below meth c H1 locs1 cells slots Q (F0 m (pc + 3) ls rest)) : W p l e R s m args below meth c H locs cells slots Q (F0 m pc ls (.int x :: .int 0 :: .ref a :: .int 0 :: .ref a0 :: rest)) := by
  subst hx
  subst hw
  have e0 : (0 : Int32).toNatClampNeg = 0 := rfl
  have en : (nI n).toNatClampNeg = n := nI_clamp hn
  refine va_copyi hexec hb hml hown hlink hnat hstat hini hK hP hD hS q0 q1 t0 t0 ha0 ha1 ht ht rfl (by decide) (by decide) (nI_pos hn) (by rw [e0, en]; omega) (by rw [e0, en]; omega) (fun _ _ => rfl) hframes hlocals hdg (fun H1 locs1 h1 h2 h3 => ?_)
  rw [e0, en] at h1 h2
  have hl := (List.getElem?_eq_some_iff.mp ha1).1
  obtain ⟨h4, h5⟩ := ct_ext h1 h2 q1 (List.getElem?_set_self hl) f (fun j hj => sb_cpy0 hj) (List.set_set _)
  exact kk H1 locs1 h4 h5 h3
end CTA
end
section
/-! what the calls do, as plain functions of rows of numbers: one value for both sides -/
def i_max (x y : Int32) : Int32 := if x < y then y else x
def i_min (x y : Int32) : Int32 := if y < x then y else x
def q_mix (i : Nat) (F w : Nat → Int32) : Nat → Int32 := fun j => if j < i then F j else w j
theorem q_mix_0 (F w : Nat → Int32) : q_mix 0 F w = w := funext fun j => by simp [q_mix]
theorem q_mix_at (F w : Nat → Int32) (i : Nat) : q_mix i F w i = w i := by simp [q_mix]
theorem q_mix_lt {F w : Nat → Int32} {i j : Nat} (h : j < i) : q_mix i F w j = F j := by simp [q_mix, h]
theorem q_mix_ge {F w : Nat → Int32} {i j : Nat} (h : i ≤ j) : q_mix i F w j = w j := by
  have h2 : ¬ j < i := by omega
  simp [q_mix, h2]
theorem q_mix_up {F w : Nat → Int32} {i : Nat} {x : Int32} (h : x = F i) : upd (q_mix i F w) i x = q_mix (i + 1) F w := by
  funext j
  unfold upd q_mix
  by_cases h1 : j = i
  · subst h1; simp [h]
  · by_cases h2 : j < i
    · have h3 : j < i + 1 := by omega
      simp [h1, h2, h3]
    · have h3 : ¬ j < i + 1 := by omega
      simp [h1, h2, h3]
theorem q_mix_same {F w : Nat → Int32} {i : Nat} (h : w i = F i) : q_mix i F w = q_mix (i + 1) F w := by
  rw [← q_mix_up (x := w i) h]
  funext j
  unfold upd
  by_cases h1 : j = i
  · subst h1; simp [q_mix_at]
  · simp [h1]
theorem q_upd_same (f : Nat → Int32) (k : Nat) : upd f k (f k) = f := by
  funext j
  unfold upd
  by_cases h1 : j = k
  · subst h1; simp
  · simp [h1]
def q_sum (f : Nat → Int32) : Nat → Int32
  | 0 => 0
  | n + 1 => q_sum f n + f n
theorem q_sum_up (b : Int32) (f : Nat → Int32) (i : Nat) : b + q_sum f i + f i = b + q_sum f (i + 1) := by
  show _ = b + (q_sum f i + f i)
  rw [Int32.add_assoc]
theorem q_sum_up' (b : Int32) (f : Nat → Int32) (i : Nat) {x : Int32} (h : x = f i) : b + q_sum f i + x = b + q_sum f (i + 1) := by rw [h]; exact q_sum_up b f i
theorem q_sum_no (b : Int32) (f : Nat → Int32) (i : Nat) (h : f i = 0) : b + q_sum f i = b + q_sum f (i + 1) := by rw [← q_sum_up, h, Int32.add_zero]
/-- how many are above 0 -/
def q_pos (f : Nat → Int32) : Nat → Int32 := fun c => if 0 < f c then 1 else 0
/-- neighbours: 0 left, 1 right, 2 above, 3 below -/
def q_nb (k : Nat) : Nat → Option Nat
  | 0 => if 0 < k % 8 then some (k - 1) else none
  | 1 => if k % 8 < 7 then some (k + 1) else none
  | 2 => if 0 < k / 8 then some (k - 8) else none
  | _ => if k / 8 < 7 then some (k + 8) else none
def q_v : Option Nat → Int32
  | none => -1
  | some j => nI j
theorem q_nb_lt {k s j : Nat} (hk : k < 64) (h : q_nb k s = some j) : j < 64 := by
  match s with
  | 0 =>
    simp only [q_nb] at h
    split at h
    · cases h; omega
    · cases h
  | 1 =>
    simp only [q_nb] at h
    split at h
    · cases h; omega
    · cases h
  | 2 =>
    simp only [q_nb] at h
    split at h
    · cases h; omega
    · cases h
  | n + 3 =>
    simp only [q_nb] at h
    split at h
    · cases h; omega
    · cases h
def q_lowStep (cre : Nat → Int32) : Option Nat → Option Nat → Option Nat
  | none, low => low
  | some j, none => some j
  | some j, some b => if cre j < cre b then some j else some b
/-- the lowest of the first s neighbours -/
def q_low (cre : Nat → Int32) (k : Nat) : Nat → Option Nat
  | 0 => none
  | s + 1 => q_lowStep cre (q_nb k s) (q_low cre k s)
theorem q_low_lt {cre : Nat → Int32} {k : Nat} (hk : k < 64) : ∀ {s j : Nat}, q_low cre k s = some j → j < 64
  | 0, j, h => by simp [q_low] at h
  | s + 1, j, h => by
    simp only [q_low] at h
    cases hn : q_nb k s with
    | none =>
      rw [hn] at h
      simp only [q_lowStep] at h
      exact q_low_lt hk h
    | some a =>
      rw [hn] at h
      have ha := q_nb_lt hk hn
      cases hl : q_low cre k s with
      | none =>
        rw [hl] at h
        simp only [q_lowStep] at h
        cases h
        exact ha
      | some b =>
        rw [hl] at h
        simp only [q_lowStep] at h
        split at h
        · cases h; exact ha
        · cases h; exact q_low_lt hk hl
/-- a cell gives to its lowest neighbour -/
def q_given (hei wat dam cre : Nat → Int32) (k j : Nat) : Int32 := i_min ((hei k + wat k - cre j) / 2) (wat k - dam k)
def q_move (g : Nat → Int32) (k j : Nat) (x : Int32) : Nat → Int32 := upd (upd g k (g k - x)) j (upd g k (g k - x) j + x)
def q_give (hei wat dam cre : Nat → Int32) (k : Nat) (o : Option Nat) (g : Nat → Int32) : Nat → Int32 :=
  match o with
  | none => g
  | some j => if 0 < hei k + wat k - cre j then q_move g k j (q_given hei wat dam cre k j) else g
def q_gain (hei wat dam cre : Nat → Int32) : Nat → (Nat → Int32)
  | 0 => fun _ => 0
  | i + 1 => if dam i < wat i then q_give hei wat dam cre i (q_low cre i 4) (q_gain hei wat dam cre i) else q_gain hei wat dam cre i
/-- the six steps of an hour -/
def q_w1 (rai : Nat → Int32) (t : Nat) (wat : Nat → Int32) : Nat → Int32 := fun c => wat c + rai (t % 12)
def q_cre (hei dam wat : Nat → Int32) : Nat → Int32 := fun c => hei c + i_max (dam c) (wat c)
def q_w2 (hei dam w1 : Nat → Int32) : Nat → Int32 := fun c => w1 c + q_gain hei w1 dam (q_cre hei dam w1) 64 c
def q_dam (dam w2 wea : Nat → Int32) : Nat → Int32 := fun c => if 0 < dam c ∧ dam c ≤ w2 c ∧ 10 ≤ wea c + 1 then 0 else dam c
def q_wea (dam w2 wea : Nat → Int32) : Nat → Int32 := fun c => if 0 < dam c ∧ dam c ≤ w2 c then (if 10 ≤ wea c + 1 then 0 else wea c + 1) else wea c
def q_brk (dam w2 wea : Nat → Int32) : Nat → Int32 := fun c => if 0 < dam c ∧ dam c ≤ w2 c ∧ 10 ≤ wea c + 1 then 1 else 0
def q_tak (dra w2 : Nat → Int32) : Nat → Int32 := fun c => i_min (dra c) (w2 c)
def q_w3 (dra w2 : Nat → Int32) : Nat → Int32 := fun c => w2 c - q_tak dra w2 c
def q_lv (w3 peo : Nat → Int32) : Nat → Int32 := fun c => if 3 ≤ w3 c then i_min (peo c / 3 + 1) (peo c) else 0
def q_peo (w3 peo : Nat → Int32) : Nat → Int32 := fun c => if 3 ≤ w3 c then peo c - i_min (peo c / 3 + 1) (peo c) else peo c
/-- what moves in an hour: water, dams, wear, people; the hour; broken, drained, left -/
abbrev Ms : Type := (Nat → Int32) × (Nat → Int32) × (Nat → Int32) × (Nat → Int32) × Nat × Int32 × Int32 × Int32
abbrev m_wat (σ : Ms) : Nat → Int32 := σ.1
abbrev m_dam (σ : Ms) : Nat → Int32 := σ.2.1
abbrev m_wea (σ : Ms) : Nat → Int32 := σ.2.2.1
abbrev m_peo (σ : Ms) : Nat → Int32 := σ.2.2.2.1
abbrev m_t (σ : Ms) : Nat := σ.2.2.2.2.1
abbrev m_bro (σ : Ms) : Int32 := σ.2.2.2.2.2.1
abbrev m_drd (σ : Ms) : Int32 := σ.2.2.2.2.2.2.1
abbrev m_lef (σ : Ms) : Int32 := σ.2.2.2.2.2.2.2
def q_hour (hei dra rai : Nat → Int32) (σ : Ms) : Ms :=
  (q_w3 dra (q_w2 hei (m_dam σ) (q_w1 rai (m_t σ) (m_wat σ))), q_dam (m_dam σ) (q_w2 hei (m_dam σ) (q_w1 rai (m_t σ) (m_wat σ))) (m_wea σ), q_wea (m_dam σ) (q_w2 hei (m_dam σ) (q_w1 rai (m_t σ) (m_wat σ))) (m_wea σ),
    q_peo (q_w3 dra (q_w2 hei (m_dam σ) (q_w1 rai (m_t σ) (m_wat σ)))) (m_peo σ), m_t σ + 1,
    m_bro σ + q_sum (q_brk (m_dam σ) (q_w2 hei (m_dam σ) (q_w1 rai (m_t σ) (m_wat σ))) (m_wea σ)) 64, m_drd σ + q_sum (q_tak dra (q_w2 hei (m_dam σ) (q_w1 rai (m_t σ) (m_wat σ)))) 64,
    m_lef σ + q_sum (q_lv (q_w3 dra (q_w2 hei (m_dam σ) (q_w1 rai (m_t σ) (m_wat σ)))) (m_peo σ)) 64)
def q_hours (hei dra rai : Nat → Int32) : Nat → Ms → Ms
  | 0, σ => σ
  | n + 1, σ => q_hour hei dra rai (q_hours hei dra rai n σ)
theorem q_hours_t (hei dra rai : Nat → Int32) (σ : Ms) : ∀ n : Nat, m_t (q_hours hei dra rai n σ) = m_t σ + n
  | 0 => rfl
  | n + 1 => by
    show m_t (q_hours hei dra rai n σ) + 1 = _
    rw [q_hours_t hei dra rai σ n, Nat.add_assoc]
/-! lakes: what is marked, and what is found in a row -/
abbrev Ls : Type := (Nat → Bool) × List Nat
def q_mark (sn : Nat → Bool) (j : Nat) : Nat → Bool := fun i => if i = j then true else sn i
def q_meet (wat : Nat → Int32) (o : Option Nat) (z : Ls) : Ls :=
  match o with
  | none => z
  | some j => if z.1 j = false ∧ 0 < wat j then (q_mark z.1 j, z.2 ++ [j]) else z
def q_sides (wat : Nat → Int32) (k : Nat) : Nat → Ls → Ls
  | 0, z => z
  | s + 1, z => q_meet wat (q_nb k s) (q_sides wat k s z)
/-- from the place 64 - n of the row on -/
def q_spread (wat : Nat → Int32) : Nat → Ls → Ls
  | 0, z => z
  | n + 1, z => if 64 - (n + 1) < z.2.length then q_spread wat n (q_sides wat (z.2.getD (64 - (n + 1)) 0) 4 z) else z
def q_from (wat : Nat → Int32) (sn : Nat → Bool) (k : Nat) : Ls := q_spread wat 64 (q_meet wat (some k) (sn, []))
def q_lakeSize (wat : Nat → Int32) (k : Nat) : Int32 := nI (q_from wat (fun _ => false) k).2.length
def q_lakesS (wat : Nat → Int32) : Nat → (Nat → Bool) × Nat
  | 0 => (fun _ => false, 0)
  | i + 1 => ((q_from wat (q_lakesS wat i).1 i).1, if 0 < (q_from wat (q_lakesS wat i).1 i).2.length then (q_lakesS wat i).2 + 1 else (q_lakesS wat i).2)
def q_lakes (wat : Nat → Int32) : Int32 := nI (q_lakesS wat 64).2
/-! what is told -/
def q_level (hei wat : Nat → Int32) (c : Nat) : Int32 := hei c + wat c
def q_cell (hei wat dam wea dra peo : Nat → Int32) (c : Nat) : Nat → Int32
  | 0 => hei c
  | 1 => wat c
  | 2 => dam c
  | 3 => wea c
  | 4 => dra c
  | 5 => peo c
  | 6 => hei c + wat c
  | _ => q_cre hei dam wat c
def q_tally (σ : Ms) : Nat → Int32
  | 0 => nI (m_t σ)
  | 1 => q_sum (m_wat σ) 64
  | 2 => q_sum (q_pos (m_wat σ)) 64
  | 3 => q_sum (q_pos (m_dam σ)) 64
  | 4 => m_bro σ
  | 5 => m_drd σ
  | 6 => q_sum (m_peo σ) 64
  | 7 => m_lef σ
  | _ => q_lakes (m_wat σ)
/-! worlds -/
/-- a Plain's twelve cells: its own, and its rows -/
abbrev pW (h : Nat) (ad : Nat → Nat) (cI : ClassId) (hei wat dam wea dra peo rai : Nat → Int32) (hou bro drd lef : Int32) (cre gai see fou : Nat → Int32) : va_W := [(h, .inr (0, [.ref (ad 0), .ref (ad 1), .ref (ad 2), .ref (ad 3), .ref (ad 4), .ref (ad 5), .ref (ad 6), .int hou, .int bro, .int drd, .int lef, .ref (ad 11), .ref (ad 12), .ref (ad 13), .ref (ad 14)])), (ad 0, .inl (cI, 64, .inl hei)), (ad 1, .inl (cI, 64, .inl wat)), (ad 2, .inl (cI, 64, .inl dam)), (ad 3, .inl (cI, 64, .inl wea)), (ad 4, .inl (cI, 64, .inl dra)), (ad 5, .inl (cI, 64, .inl peo)), (ad 6, .inl (cI, 12, .inl rai)), (ad 11, .inl (cI, 64, .inl cre)), (ad 12, .inl (cI, 64, .inl gai)), (ad 13, .inl (cI, 64, .inl see)), (ad 14, .inl (cI, 64, .inl fou))]
/-- a Plain's cells by the value that moves -/
abbrev pM (h : Nat) (ad : Nat → Nat) (cI : ClassId) (hei dra rai : Nat → Int32) (σ : Ms) (cre gai see fou : Nat → Int32) : va_W := pW h ad cI hei (m_wat σ) (m_dam σ) (m_wea σ) dra (m_peo σ) rai (nI (m_t σ)) (m_bro σ) (m_drd σ) (m_lef σ) cre gai see fou
/-- FloodGrid's own cell -/
abbrev gW (g hn ha : Nat) : va_W := [(g, .inr (1, [.ref hn, .ref ha]))]
/-- the model's twelve cells -/
abbrev mW (h : Nat) (ad : Nat → Nat) (cI : ClassId) (thr : Int32) (hei wat dam wea dra peo rai num flo lak row : Nat → Int32) : va_W := [(h, .inr (2, [.int thr, .ref (ad 1), .ref (ad 2), .ref (ad 3), .ref (ad 4), .ref (ad 5), .ref (ad 6), .ref (ad 7), .ref (ad 8), .ref (ad 9), .ref (ad 10), .ref (ad 11)])), (ad 1, .inl (cI, 64, .inl hei)), (ad 2, .inl (cI, 64, .inl wat)), (ad 3, .inl (cI, 64, .inl dam)), (ad 4, .inl (cI, 64, .inl wea)), (ad 5, .inl (cI, 64, .inl dra)), (ad 6, .inl (cI, 64, .inl peo)), (ad 7, .inl (cI, 12, .inl rai)), (ad 8, .inl (cI, 4, .inl num)), (ad 9, .inl (cI, 64, .inl flo)), (ad 10, .inl (cI, 64, .inl lak)), (ad 11, .inl (cI, 64, .inl row))]
def q_num (h b d l : Int32) : Nat → Int32
  | 0 => h
  | 1 => b
  | 2 => d
  | 3 => l
  | _ => 0
theorem q_num_0 (h b d l x : Int32) : upd (q_num h b d l) 0 x = q_num x b d l := funext fun j => by
  match j with
  | 0 => rfl
  | 1 => rfl
  | 2 => rfl
  | 3 => rfl
  | n + 4 => rfl
theorem q_num_1 (h b d l x : Int32) : upd (q_num h b d l) 1 x = q_num h x d l := funext fun j => by
  match j with
  | 0 => rfl
  | 1 => rfl
  | 2 => rfl
  | 3 => rfl
  | n + 4 => rfl
theorem q_num_2 (h b d l x : Int32) : upd (q_num h b d l) 2 x = q_num h b x l := funext fun j => by
  match j with
  | 0 => rfl
  | 1 => rfl
  | 2 => rfl
  | 3 => rfl
  | n + 4 => rfl
theorem q_num_3 (h b d l x : Int32) : upd (q_num h b d l) 3 x = q_num h b d x := funext fun j => by
  match j with
  | 0 => rfl
  | 1 => rfl
  | 2 => rfl
  | 3 => rfl
  | n + 4 => rfl
end
section
abbrev rm_J7_fill_53178 : Room := { frames := 0, cells := 0, slots := 0, locals := 0 }
set_option maxHeartbeats 4000000 in
set_option maxRecDepth 100000 in
theorem c_fill (l : Launch) (D : va_G) (cI : ClassId) (a n : Nat) (hn : n < 2 ^ 31) (f : Nat → Int32) (v : Int32) : ct_v (S := Unit) l D yJ7_fill_53178 wsJ7_fill_53178 rm_J7_fill_53178 [.ref a, .int v] ([(a, .inl (cI, n, .inl f))]) [(cI, .int)] (fun _ => True) (fun _ => [(a, .inl (cI, n, .inl (fun _ => v)))]) := by
  refine ct_ofv (cc := cJ7_fill_53178) (maxL := 4) (by decide) rfl (Nat.le_of_ble_eq_true rfl) ?_
  intro p e s m args below meth c A Q hx hb hml hown hts hin hA hK H locs hP hD hS fin ls hl
  have hown : s.vm.findClass RJ7 = some m.cls := hown
  have hl : lv_has ls 4 [(0, .ref a), (1, .int v)] := hl
  refine lv_iconst (v := 0) hx hb dJ7_fill_53178_0 (by decide) ?_
  refine lv_istore_n (lv' := [(2, .int 0), (0, .ref a), (1, .int v)]) hx hb dJ7_fill_53178_1 rfl hl (by decide) rfl (fun ls hl => ?_)
  refine lv_aload_n hx hb dJ7_fill_53178_2 rfl (lv_at hl 1 rfl) ?_
  refine va_alen (v := (nI n)) hx hb hK hP 0 rfl (t0 := 0) rfl rfl dJ7_fill_53178_3 ?_
  refine lv_istore_n (lv' := [(3, .int (nI n)), (2, .int 0), (0, .ref a), (1, .int v)]) hx hb dJ7_fill_53178_4 rfl hl (by decide) rfl (fun ls hl => ?_)
  have loop : ∀ (fu i : Nat), i + fu = n → ∀ (g : Nat → Int32) (H : Heap) (locs : List Loc) (ls : Array Slot), (g = q_mix i (fun _ => v) f) → va_P D vwCl ([(a, .inl (cI, n, .inl g))]) H → va_D A ([(a, .inl (cI, n, .inl g))]) → va_S A s.heap H locs → lv_has ls 4 [(0, .ref a), (1, .int v), (2, .int (nI i)), (3, .int (nI n))] → W p l e rm_J7_fill_53178 s m args below meth c H locs 0 0 Q (F0 m 5 ls []) := by
    intro fu
    induction fu with
    | zero =>
      intro i hi g H locs ls hg hP hD hS hl
      obtain rfl : n = i := by omega
      refine lv_iload_n hx hb dJ7_fill_53178_5 rfl (lv_at hl 2 rfl) ?_
      refine lv_iload_n hx hb dJ7_fill_53178_6 rfl (lv_at hl 3 rfl) ?_
      refine lv_icmp_ge (tgt := 20) hx hb dJ7_fill_53178_7 (by decide) (fun hc => ?_) (fun hc => ?_)
      · skip
        obtain ⟨hP, hD⟩ := ct_ext hP hD 0 rfl (fun _ => v) (fun j hj => by rw [hg]; exact q_mix_lt hj) rfl
        exact fin () H locs 0 0 20 ls dJ7_fill_53178_20 trivial hP hD hS (Nat.le_of_ble_eq_true rfl) (Nat.le_of_ble_eq_true rfl)
      · skip
        exact absurd (Int32.le_refl _) hc
    | succ fu ih =>
      intro i hi g H locs ls hg hP hD hS hl
      have hlt : i < n := by omega
      refine lv_iload_n hx hb dJ7_fill_53178_5 rfl (lv_at hl 2 rfl) ?_
      refine lv_iload_n hx hb dJ7_fill_53178_6 rfl (lv_at hl 3 rfl) ?_
      refine lv_icmp_ge (tgt := 20) hx hb dJ7_fill_53178_7 (by decide) (fun hc => ?_) (fun hc => ?_)
      · skip
        exact absurd hc (nI_ge (by omega) hn)
      · skip
        refine lv_aload_n hx hb dJ7_fill_53178_10 rfl (lv_at hl 0 rfl) ?_
        refine lv_iload_n hx hb dJ7_fill_53178_11 rfl (lv_at hl 2 rfl) ?_
        refine lv_iload_n hx hb dJ7_fill_53178_12 rfl (lv_at hl 1 rfl) ?_
        refine ct_iast (g := upd g i v) (ws1 := ([(a, .inl (cI, n, .inl (upd g i v)))])) hx hb hK hP hD hS 0 0 rfl rfl i rfl hlt hn rfl rfl dJ7_fill_53178_13 (fun H locs hP hD hS => ?_)
        refine lv_iinc (v := (nI (i + 1))) (lv' := [(2, .int (nI (i + 1))), (0, .ref a), (1, .int v), (3, .int (nI n))]) hx hb dJ7_fill_53178_14 hl (k := 2) rfl (nI_1 i) (by decide) rfl (fun ls hl => ?_)
        refine lv_goto (tgt := 5) hx hb dJ7_fill_53178_17 (by decide) ?_
        exact ih (i + 1) (by omega) (upd g i v) H locs ls (by rw [hg]; exact q_mix_up rfl) hP hD hS (lv_sub hl [1, 2, 0, 3] rfl)
  exact loop n 0 (by omega) f H locs ls (q_mix_0 _ _).symm hP hD hS (lv_sub hl [2, 3, 1, 0] rfl)
abbrev rm_J9_floorMod_7cf53 : Room := { frames := 0, cells := 0, slots := 0, locals := 0 }
theorem fm_xor {t : Nat} (h : t < 2 ^ 31) : 0 ≤ nI t ^^^ 12 := by
  have h1 : (nI t).toBitVec.msb = false := by
    rw [BitVec.msb_eq_toInt]
    have : (nI t).toBitVec.toInt = (t : Int) := nI_toInt h
    simp [this]
  have h2 : (nI t ^^^ 12).toBitVec.msb = false := by
    rw [Int32.toBitVec_xor, BitVec.msb_xor, h1]
    decide
  rw [BitVec.msb_eq_toInt] at h2
  have h3 : ¬ (nI t ^^^ 12).toBitVec.toInt < 0 := of_decide_eq_false h2
  rw [Int32.le_iff_toInt_le]
  exact Int.not_lt.mp h3
set_option maxHeartbeats 4000000 in
set_option maxRecDepth 100000 in
theorem c_floorMod (l : Launch) (D : va_G) (cI : ClassId) (t : Nat) (ht : t < 2 ^ 31) : ct_i (S := Unit) l D yJ9_floorMod_7cf53 wsJ9_floorMod_7cf53 rm_J9_floorMod_7cf53 [.int (nI t), .int 12] ([] : va_W) [(cI, .int)] (fun r _ => r = nI (t % 12)) (fun _ => ([] : va_W)) := by
  refine ct_ofiF (cc := cJ9_floorMod_7cf53) (maxL := 3) (by decide +kernel) rfl (Nat.le_of_ble_eq_true rfl) ?_
  intro p e s m args below meth c A Q hx hb hml hown hts hin hA hK H locs hP hD hS fin ls hl
  have hown : s.vm.findClass RJ9 = some m.cls := hown
  have hl : lv_has ls 3 [(0, .int (nI t)), (1, .int 12)] := hl
  refine lv_iload_n hx hb dJ9_floorMod_7cf53_0 rfl (lv_at hl 0 rfl) ?_
  refine lv_iload_n hx hb dJ9_floorMod_7cf53_1 rfl (lv_at hl 1 rfl) ?_
  refine ct_irem hx hb t 12 rfl rfl (by omega) (by decide) (by decide) dJ9_floorMod_7cf53_2 ?_
  refine lv_istore_n (lv' := [(2, .int (nI (t % 12))), (0, .int (nI t)), (1, .int 12)]) hx hb dJ9_floorMod_7cf53_3 rfl hl (by decide) rfl (fun ls hl => ?_)
  refine lv_iload_n hx hb dJ9_floorMod_7cf53_4 rfl (lv_at hl 1 rfl) ?_
  refine lv_iload_n hx hb dJ9_floorMod_7cf53_5 rfl (lv_at hl 2 rfl) ?_
  refine lv_ixor hx hb dJ9_floorMod_7cf53_6 ?_
  refine lv_if_ge (tgt := 18) hx hb dJ9_floorMod_7cf53_7 (by decide) (fun hc => ?_) (fun hc => ?_)
  · skip
    refine lv_iload_n hx hb dJ9_floorMod_7cf53_18 rfl (lv_at hl 0 rfl) ?_
    exact fin (nI (t % 12)) () H locs 0 0 19 ls dJ9_floorMod_7cf53_19 rfl hP hD hS (Nat.le_of_ble_eq_true rfl) (Nat.le_of_ble_eq_true rfl)
  · skip
    exact absurd (fm_xor ht) hc
abbrev rm_X0_neighbourOf : Room := { frames := 0, cells := 0, slots := 0, locals := 0 }
theorem nb_le {a : Nat} (h : nI a ≤ 0) (ha : a < 2 ^ 31) : a = 0 := by
  rcases Nat.eq_zero_or_pos a with h0 | h0
  · exact h0
  · exact absurd h (nI_nle h0 ha)
theorem nb_pos {a : Nat} (h : ¬ nI a ≤ 0) : 0 < a := Nat.pos_of_ne_zero (fun h0 => h (by rw [h0]; decide))
theorem nb_ge {a b : Nat} (h : nI a ≤ nI b) (ha : a < 2 ^ 31) (hb : b < 2 ^ 31) : a ≤ b := (nI_leI ha hb).mp h
theorem nb_lt {a b : Nat} (h : ¬ nI a ≤ nI b) (hb : b < 2 ^ 31) : b < a := Nat.not_le.mp (fun h2 => h (nI_le h2 hb))
theorem nb_0 {k : Nat} : q_v (q_nb k 0) = if 0 < k % 8 then nI (k - 1) else -1 := by simp only [q_nb]; split <;> rfl
theorem nb_1 {k : Nat} : q_v (q_nb k 1) = if k % 8 < 7 then nI (k + 1) else -1 := by simp only [q_nb]; split <;> rfl
theorem nb_2 {k : Nat} : q_v (q_nb k 2) = if 0 < k / 8 then nI (k - 8) else -1 := by simp only [q_nb]; split <;> rfl
theorem nb_3 {k : Nat} : q_v (q_nb k 3) = if k / 8 < 7 then nI (k + 8) else -1 := by simp only [q_nb]; split <;> rfl
set_option maxHeartbeats 4000000 in
set_option maxRecDepth 100000 in
theorem c_nb (l : Launch) (D : va_G) (cI : ClassId) (k sd : Nat) (hk : k < 64) (hsd : sd < 4) : ct_i (S := Unit) l D yX0_neighbourOf wsX0_neighbourOf rm_X0_neighbourOf [.int (nI k), .int (nI sd)] ([] : va_W) [(cI, .int)] (fun r _ => r = q_v (q_nb k sd)) (fun _ => ([] : va_W)) := by
  refine ct_ofi (cc := cX0_neighbourOf) (maxL := 4) (by decide) rfl (Nat.le_of_ble_eq_true rfl) ?_
  intro p e s m args below meth c A Q hx hb hml hown hts hin hA hK H locs hP hD hS fin ls hl
  have hown : s.vm.findClass RX0 = some m.cls := hown
  have hl : lv_has ls 4 [(0, .int (nI k)), (1, .int (nI sd))] := hl
  refine lv_iload_n hx hb dX0_neighbourOf_0 rfl (lv_at hl 0 rfl) ?_
  refine lv_bipush (v := 8) hx hb dX0_neighbourOf_1 (by decide) ?_
  refine ct_irem hx hb k 8 rfl rfl (by omega) (by decide) (by decide) dX0_neighbourOf_3 ?_
  refine lv_istore_n (lv' := [(2, .int (nI (k % 8))), (0, .int (nI k)), (1, .int (nI sd))]) hx hb dX0_neighbourOf_4 rfl hl (by decide) rfl (fun ls hl => ?_)
  refine lv_iload_n hx hb dX0_neighbourOf_5 rfl (lv_at hl 1 rfl) ?_
  refine lv_bipush (v := 8) hx hb dX0_neighbourOf_6 (by decide) ?_
  refine ct_idiv hx hb k 8 rfl rfl (by omega) (by decide) (by decide) dX0_neighbourOf_8 ?_
  refine lv_istore_n (lv' := [(3, .int (nI (k / 8))), (2, .int (nI (k % 8))), (0, .int (nI k)), (1, .int (nI sd))]) hx hb dX0_neighbourOf_9 rfl hl (by decide) rfl (fun ls hl => ?_)
  refine lv_iload_n hx hb dX0_neighbourOf_10 rfl (lv_at hl 3 rfl) ?_
  rcases (show sd = 0 ∨ sd = 1 ∨ sd = 2 ∨ sd = 3 by omega) with rfl | rfl | rfl | rfl
  · skip
    refine lv_tableIn (tgt := 36) hx hb dX0_neighbourOf_11 (by decide) (by decide) rfl (by decide) ?_
    refine lv_iload_n hx hb dX0_neighbourOf_36 rfl (lv_at hl 1 rfl) ?_
    refine lv_if_le (tgt := 46) hx hb dX0_neighbourOf_37 (by decide) (fun hc => ?_) (fun hc => ?_)
    · skip
      have h2 : ¬ (0 < k % 8) := by have := nb_le hc (by omega); omega
      refine lv_iconst (v := (-1)) hx hb dX0_neighbourOf_46 (by decide) ?_
      exact fin (-1) () H locs 0 0 47 ls dX0_neighbourOf_47 (by rw [nb_0, if_neg h2]) hP hD hS (Nat.le_of_ble_eq_true rfl) (Nat.le_of_ble_eq_true rfl)
    · skip
      have h2 : 0 < k % 8 := nb_pos hc
      refine lv_iload_n hx hb dX0_neighbourOf_40 rfl (lv_at hl 2 rfl) ?_
      refine lv_iconst (v := 1) hx hb dX0_neighbourOf_41 (by decide) ?_
      refine lv_isub hx hb dX0_neighbourOf_42 ?_
      refine lv_goto (tgt := 47) hx hb dX0_neighbourOf_43 (by decide) ?_
      exact fin ((nI k) - 1) () H locs 0 0 47 ls dX0_neighbourOf_47 (by rw [nb_0, if_pos h2]; exact pk_sub (b := 1) (by omega)) hP hD hS (Nat.le_of_ble_eq_true rfl) (Nat.le_of_ble_eq_true rfl)
  · skip
    refine lv_tableIn (tgt := 48) hx hb dX0_neighbourOf_11 (by decide) (by decide) rfl (by decide) ?_
    refine lv_iload_n hx hb dX0_neighbourOf_48 rfl (lv_at hl 1 rfl) ?_
    refine lv_bipush (v := 7) hx hb dX0_neighbourOf_49 (by decide) ?_
    refine lv_icmp_ge (tgt := 60) hx hb dX0_neighbourOf_51 (by decide) (fun hc => ?_) (fun hc => ?_)
    · skip
      have h2 : ¬ (k % 8 < 7) := by have := nb_ge (a := 7) hc (by decide) (by omega); omega
      refine lv_iconst (v := (-1)) hx hb dX0_neighbourOf_60 (by decide) ?_
      exact fin (-1) () H locs 0 0 61 ls dX0_neighbourOf_61 (by rw [nb_1, if_neg h2]) hP hD hS (Nat.le_of_ble_eq_true rfl) (Nat.le_of_ble_eq_true rfl)
    · skip
      have h2 : k % 8 < 7 := nb_lt (a := 7) hc (by omega)
      refine lv_iload_n hx hb dX0_neighbourOf_54 rfl (lv_at hl 2 rfl) ?_
      refine lv_iconst (v := 1) hx hb dX0_neighbourOf_55 (by decide) ?_
      refine lv_iadd hx hb dX0_neighbourOf_56 ?_
      refine lv_goto (tgt := 61) hx hb dX0_neighbourOf_57 (by decide) ?_
      exact fin ((nI k) + 1) () H locs 0 0 61 ls dX0_neighbourOf_61 (by rw [nb_1, if_pos h2]; exact nI_1 k) hP hD hS (Nat.le_of_ble_eq_true rfl) (Nat.le_of_ble_eq_true rfl)
  · skip
    refine lv_tableIn (tgt := 62) hx hb dX0_neighbourOf_11 (by decide) (by decide) rfl (by decide) ?_
    refine lv_iload_n hx hb dX0_neighbourOf_62 rfl (lv_at hl 0 rfl) ?_
    refine lv_if_le (tgt := 73) hx hb dX0_neighbourOf_63 (by decide) (fun hc => ?_) (fun hc => ?_)
    · skip
      have h2 : ¬ (0 < k / 8) := by have := nb_le hc (by omega); omega
      refine lv_iconst (v := (-1)) hx hb dX0_neighbourOf_73 (by decide) ?_
      exact fin (-1) () H locs 0 0 74 ls dX0_neighbourOf_74 (by rw [nb_2, if_neg h2]) hP hD hS (Nat.le_of_ble_eq_true rfl) (Nat.le_of_ble_eq_true rfl)
    · skip
      have h2 : 0 < k / 8 := nb_pos hc
      refine lv_iload_n hx hb dX0_neighbourOf_66 rfl (lv_at hl 2 rfl) ?_
      refine lv_bipush (v := 8) hx hb dX0_neighbourOf_67 (by decide) ?_
      refine lv_isub hx hb dX0_neighbourOf_69 ?_
      refine lv_goto (tgt := 74) hx hb dX0_neighbourOf_70 (by decide) ?_
      exact fin ((nI k) - 8) () H locs 0 0 74 ls dX0_neighbourOf_74 (by rw [nb_2, if_pos h2]; exact pk_sub (b := 8) (by omega)) hP hD hS (Nat.le_of_ble_eq_true rfl) (Nat.le_of_ble_eq_true rfl)
  · skip
    refine lv_tableOut (tgt := 75) hx hb dX0_neighbourOf_11 (Or.inr (by decide)) (by decide) ?_
    refine lv_iload_n hx hb dX0_neighbourOf_75 rfl (lv_at hl 0 rfl) ?_
    refine lv_bipush (v := 7) hx hb dX0_neighbourOf_76 (by decide) ?_
    refine lv_icmp_ge (tgt := 88) hx hb dX0_neighbourOf_78 (by decide) (fun hc => ?_) (fun hc => ?_)
    · skip
      have h2 : ¬ (k / 8 < 7) := by have := nb_ge (a := 7) hc (by decide) (by omega); omega
      refine lv_iconst (v := (-1)) hx hb dX0_neighbourOf_88 (by decide) ?_
      exact fin (-1) () H locs 0 0 89 ls dX0_neighbourOf_89 (by rw [nb_3, if_neg h2]) hP hD hS (Nat.le_of_ble_eq_true rfl) (Nat.le_of_ble_eq_true rfl)
    · skip
      have h2 : k / 8 < 7 := nb_lt (a := 7) hc (by omega)
      refine lv_iload_n hx hb dX0_neighbourOf_81 rfl (lv_at hl 2 rfl) ?_
      refine lv_bipush (v := 8) hx hb dX0_neighbourOf_82 (by decide) ?_
      refine lv_iadd hx hb dX0_neighbourOf_84 ?_
      refine lv_goto (tgt := 89) hx hb dX0_neighbourOf_85 (by decide) ?_
      exact fin ((nI k) + 8) () H locs 0 0 89 ls dX0_neighbourOf_89 (by rw [nb_3, if_pos h2]; exact nI_add k 8) hP hD hS (Nat.le_of_ble_eq_true rfl) (Nat.le_of_ble_eq_true rfl)
end
section
abbrev rm_X0_levelOf : Room := { frames := 0, cells := 0, slots := 0, locals := 0 }
set_option maxHeartbeats 4000000 in
set_option maxRecDepth 100000 in
theorem c_X0_levelOf (l : Launch) (D : va_G) (cI : ClassId) (h : Nat) (ad : Nat → Nat) (hei wat dam wea dra peo rai : Nat → Int32) (hou bro drd lef : Int32) (cre gai see fou : Nat → Int32) (k : Nat) (hk : k < 64) : ct_i (S := Unit) l D yX0_levelOf wsX0_levelOf rm_X0_levelOf [.ref h, .int (nI k)] (pW h ad cI hei wat dam wea dra peo rai hou bro drd lef cre gai see fou) [(cI, .int)] (fun r _ => r = hei k + wat k) (fun _ => (pW h ad cI hei wat dam wea dra peo rai hou bro drd lef cre gai see fou)) := by
  refine ct_ofi (cc := cX0_levelOf) (maxL := 2) (by decide) rfl (Nat.le_of_ble_eq_true rfl) ?_
  intro p e s m args below meth c A Q hx hb hml hown hts hin hA hK H locs hP hD hS fin ls hl
  have hown : s.vm.findClass RX0 = some m.cls := hown
  have hl : lv_has ls 2 [(0, .ref h), (1, .int (nI k))] := hl
  refine lv_aload_n hx hb dX0_levelOf_0 rfl (lv_at hl 0 rfl) ?_
  refine va_get (D := D) (ci := 0) (v := .ref (ad 0)) (C := RX0) (T := TX0) (N := 15) hx hb hts (fun _ h9 => (List.mem_cons_of_mem _ (List.mem_append_right _ h9))) hown hK hP 0 rfl rfl 0 (by decide) (hts (Cond.fieldLink RX0 9 "FloodGrid$Plain" "height" "[I") (List.mem_of_getElem? (i := 1) rfl)) (fun _ h9 => h9) rfl dX0_levelOf_1 ?_
  refine lv_iload_n hx hb dX0_levelOf_4 rfl (lv_at hl 1 rfl) ?_
  refine ct_iald (v := hei k) hx hb hK hP 1 0 rfl rfl k rfl (by omega) (by decide) rfl dX0_levelOf_5 ?_
  refine lv_aload_n hx hb dX0_levelOf_6 rfl (lv_at hl 0 rfl) ?_
  refine va_get (D := D) (ci := 0) (v := .ref (ad 1)) (C := RX0) (T := TX0) (N := 15) hx hb hts (fun _ h9 => (List.mem_cons_of_mem _ (List.mem_append_right _ h9))) hown hK hP 0 rfl rfl 1 (by decide) (hts (Cond.fieldLink RX0 15 "FloodGrid$Plain" "water" "[I") (List.mem_of_getElem? (i := 2) rfl)) (fun _ h9 => h9) rfl dX0_levelOf_7 ?_
  refine lv_iload_n hx hb dX0_levelOf_10 rfl (lv_at hl 1 rfl) ?_
  refine ct_iald (v := wat k) hx hb hK hP 2 0 rfl rfl k rfl (by omega) (by decide) rfl dX0_levelOf_11 ?_
  refine lv_iadd hx hb dX0_levelOf_12 ?_
  exact fin ((hei k) + (wat k)) () H locs 0 0 13 ls dX0_levelOf_13 rfl hP hD hS (Nat.le_of_ble_eq_true rfl) (Nat.le_of_ble_eq_true rfl)
abbrev rm_X0_crestOf : Room := { frames := 1, cells := 0, slots := 0, locals := 21 }
set_option maxHeartbeats 4000000 in
set_option maxRecDepth 100000 in
theorem c_X0_crestOf (l : Launch) (D : va_G) (cI : ClassId) (h : Nat) (ad : Nat → Nat) (hei wat dam wea dra peo rai : Nat → Int32) (hou bro drd lef : Int32) (cre gai see fou : Nat → Int32) (k : Nat) (hk : k < 64) : ct_i (S := Unit) l D yX0_crestOf wsX0_crestOf rm_X0_crestOf [.ref h, .int (nI k)] (pW h ad cI hei wat dam wea dra peo rai hou bro drd lef cre gai see fou) [(cI, .int)] (fun r _ => r = q_cre hei dam wat k) (fun _ => (pW h ad cI hei wat dam wea dra peo rai hou bro drd lef cre gai see fou)) := by
  refine ct_ofi (cc := cX0_crestOf) (maxL := 2) (by decide) rfl (Nat.le_of_ble_eq_true rfl) ?_
  intro p e s m args below meth c A Q hx hb hml hown hts hin hA hK H locs hP hD hS fin ls hl
  have hown : s.vm.findClass RX0 = some m.cls := hown
  have hl : lv_has ls 2 [(0, .ref h), (1, .int (nI k))] := hl
  refine lv_aload_n hx hb dX0_crestOf_0 rfl (lv_at hl 0 rfl) ?_
  refine va_get (D := D) (ci := 0) (v := .ref (ad 0)) (C := RX0) (T := TX0) (N := 15) hx hb hts (fun _ h9 => (List.mem_cons_of_mem _ (List.mem_append_right _ h9))) hown hK hP 0 rfl rfl 0 (by decide) (hts (Cond.fieldLink RX0 9 "FloodGrid$Plain" "height" "[I") (List.mem_of_getElem? (i := 1) rfl)) (fun _ h9 => h9) rfl dX0_crestOf_1 ?_
  refine lv_iload_n hx hb dX0_crestOf_4 rfl (lv_at hl 1 rfl) ?_
  refine ct_iald (v := hei k) hx hb hK hP 1 0 rfl rfl k rfl (by omega) (by decide) rfl dX0_crestOf_5 ?_
  refine lv_aload_n hx hb dX0_crestOf_6 rfl (lv_at hl 0 rfl) ?_
  refine va_get (D := D) (ci := 0) (v := .ref (ad 2)) (C := RX0) (T := TX0) (N := 15) hx hb hts (fun _ h9 => (List.mem_cons_of_mem _ (List.mem_append_right _ h9))) hown hK hP 0 rfl rfl 2 (by decide) (hts (Cond.fieldLink RX0 18 "FloodGrid$Plain" "dam" "[I") (List.mem_of_getElem? (i := 2) rfl)) (fun _ h9 => h9) rfl dX0_crestOf_7 ?_
  refine lv_iload_n hx hb dX0_crestOf_10 rfl (lv_at hl 1 rfl) ?_
  refine ct_iald (v := dam k) hx hb hK hP 3 0 rfl rfl k rfl (by omega) (by decide) rfl dX0_crestOf_11 ?_
  refine lv_aload_n hx hb dX0_crestOf_12 rfl (lv_at hl 0 rfl) ?_
  refine va_get (D := D) (ci := 0) (v := .ref (ad 1)) (C := RX0) (T := TX0) (N := 15) hx hb hts (fun _ h9 => (List.mem_cons_of_mem _ (List.mem_append_right _ h9))) hown hK hP 0 rfl rfl 1 (by decide) (hts (Cond.fieldLink RX0 15 "FloodGrid$Plain" "water" "[I") (List.mem_of_getElem? (i := 3) rfl)) (fun _ h9 => h9) rfl dX0_crestOf_13 ?_
  refine lv_iload_n hx hb dX0_crestOf_16 rfl (lv_at hl 1 rfl) ?_
  refine ct_iald (v := wat k) hx hb hK hP 2 0 rfl rfl k rfl (by omega) (by decide) rfl dX0_crestOf_17 ?_
  refine ct_mmax (v := (i_max (dam k) (wat k))) hx hb (hml.trans hl.1.symm) hown (hts (Cond.methodLink RX0 114 Lib.Math.max.name) (List.mem_of_getElem? (i := 4) rfl)) (hts (Cond.static Lib.Math.max.name) (List.mem_of_getElem? (i := 5) rfl)) (hts (Cond.initialized "java/lang/Math") (List.mem_of_getElem? (i := 6) rfl)) (hts (Cond.code Lib.Math.max.name Lib.Math.max.code 2 (some .int)) (List.mem_of_getElem? (i := 7) rfl)) (Nat.le_of_ble_eq_true rfl) (Nat.le_of_ble_eq_true rfl) (Nat.le_of_ble_eq_true rfl) (Nat.le_of_ble_eq_true rfl) rfl dX0_crestOf_18 ?_
  refine lv_iadd hx hb dX0_crestOf_21 ?_
  exact fin ((hei k) + (i_max (dam k) (wat k))) () H locs 0 0 22 ls dX0_crestOf_22 rfl hP hD hS (Nat.le_of_ble_eq_true rfl) (Nat.le_of_ble_eq_true rfl)
abbrev rm_X0_lowestNeighbour : Room := { frames := 1, cells := 0, slots := 0, locals := 23 }
set_option maxHeartbeats 4000000 in
set_option maxRecDepth 100000 in
theorem c_X0_lowest (l : Launch) (D : va_G) (cI : ClassId) (h : Nat) (ad : Nat → Nat) (hei wat dam wea dra peo rai : Nat → Int32) (hou bro drd lef : Int32) (cre gai see fou : Nat → Int32) (k : Nat) (hk : k < 64) : ct_i (S := Unit) l D yX0_lowestNeighbour wsX0_lowestNeighbour rm_X0_lowestNeighbour [.ref h, .int (nI k)] (pW h ad cI hei wat dam wea dra peo rai hou bro drd lef cre gai see fou) [(cI, .int)] (fun r _ => r = q_v (q_low cre k 4)) (fun _ => (pW h ad cI hei wat dam wea dra peo rai hou bro drd lef cre gai see fou)) := by
  refine ct_ofi (cc := cX0_lowestNeighbour) (maxL := 5) (by decide) rfl (Nat.le_of_ble_eq_true rfl) ?_
  intro p e s m args below meth c A Q hx hb hml hown hts hin hA hK H locs hP hD hS fin ls hl
  have hown : s.vm.findClass RX0 = some m.cls := hown
  have hl : lv_has ls 5 [(0, .ref h), (1, .int (nI k))] := hl
  refine lv_iconst (v := (-1)) hx hb dX0_lowestNeighbour_0 (by decide) ?_
  refine lv_istore_n (lv' := [(2, .int (-1)), (0, .ref h), (1, .int (nI k))]) hx hb dX0_lowestNeighbour_1 rfl hl (by decide) rfl (fun ls hl => ?_)
  refine lv_iconst (v := 0) hx hb dX0_lowestNeighbour_2 (by decide) ?_
  refine lv_istore_n (lv' := [(3, .int 0), (2, .int (-1)), (0, .ref h), (1, .int (nI k))]) hx hb dX0_lowestNeighbour_3 rfl hl (by decide) rfl (fun ls hl => ?_)
  have loop : ∀ (fu i : Nat), i + fu = 4 → ∀ (low : Option Nat) (H : Heap) (locs : List Loc) (ls : Array Slot), (low = q_low cre k i) → va_P D vwCl (pW h ad cI hei wat dam wea dra peo rai hou bro drd lef cre gai see fou) H → va_D A (pW h ad cI hei wat dam wea dra peo rai hou bro drd lef cre gai see fou) → va_S A s.heap H locs → lv_has ls 5 [(0, .ref h), (1, .int (nI k)), (2, .int (q_v low)), (3, .int (nI i))] → W p l e rm_X0_lowestNeighbour s m args below meth c H locs 0 0 Q (F0 m 4 ls []) := by
    intro fu
    induction fu with
    | zero =>
      intro i hi low H locs ls hlow hP hD hS hl
      obtain rfl : 4 = i := by omega
      refine lv_iload_n hx hb dX0_lowestNeighbour_4 rfl (lv_at hl 3 rfl) ?_
      refine lv_iconst (v := 4) hx hb dX0_lowestNeighbour_5 (by decide) ?_
      refine lv_icmp_ge (tgt := 50) hx hb dX0_lowestNeighbour_6 (by decide) (fun hc => ?_) (fun hc => ?_)
      · skip
        refine lv_iload_n hx hb dX0_lowestNeighbour_50 rfl (lv_at hl 2 rfl) ?_
        exact fin (q_v low) () H locs 0 0 51 ls dX0_lowestNeighbour_51 (by rw [hlow]) hP hD hS (Nat.le_of_ble_eq_true rfl) (Nat.le_of_ble_eq_true rfl)
      · skip
        exact absurd (show (4 : Int32) ≤ nI 4 by decide) hc
    | succ fu ih =>
      intro i hi low H locs ls hlow hP hD hS hl
      have hlt : i < 4 := by omega
      refine lv_iload_n hx hb dX0_lowestNeighbour_4 rfl (lv_at hl 3 rfl) ?_
      refine lv_iconst (v := 4) hx hb dX0_lowestNeighbour_5 (by decide) ?_
      refine lv_icmp_ge (tgt := 50) hx hb dX0_lowestNeighbour_6 (by decide) (fun hc => ?_) (fun hc => ?_)
      · skip
        exact absurd hc (nI_ge (b := 4) hlt (by decide))
      · skip
        refine lv_iload_n hx hb dX0_lowestNeighbour_9 rfl (lv_at hl 1 rfl) ?_
        refine lv_iload_n hx hb dX0_lowestNeighbour_10 rfl (lv_at hl 3 rfl) ?_
        refine ct_Si (As := [.int (nI k), .int (nI i)]) (rest := []) (wr := [(h, .inr (0, [.ref (ad 0), .ref (ad 1), .ref (ad 2), .ref (ad 3), .ref (ad 4), .ref (ad 5), .ref (ad 6), .int hou, .int bro, .int drd, .int lef, .ref (ad 11), .ref (ad 12), .ref (ad 13), .ref (ad 14)])), ((ad 0), .inl (cI, 64, .inl hei)), ((ad 1), .inl (cI, 64, .inl wat)), ((ad 2), .inl (cI, 64, .inl dam)), ((ad 3), .inl (cI, 64, .inl wea)), ((ad 4), .inl (cI, 64, .inl dra)), ((ad 5), .inl (cI, 64, .inl peo)), ((ad 6), .inl (cI, 12, .inl rai)), ((ad 11), .inl (cI, 64, .inl cre)), ((ad 12), .inl (cI, 64, .inl gai)), ((ad 13), .inl (cI, 64, .inl see)), ((ad 14), .inl (cI, 64, .inl fou))]) (W1 := fun u => (pW h ad cI hei wat dam wea dra peo rai hou bro drd lef cre gai see fou)) (cells1 := 0) (slots1 := 0) ⟨hx, hb, hml, hown, hts⟩ (c_nb l D cI k i hk hlt) (va_cwS 2 hts gX0_lowestNeighbour_X0_neighbourOf rfl rfl rfl (by decide +kernel) ⟨Nat.le_of_ble_eq_true rfl, Nat.le_of_ble_eq_true rfl⟩) hK hP hD hS hA [] [0, 1, 2, 3, 4, 5, 6, 7, 8, 9, 10, 11] ⟨rfl, rfl, rfl, rfl, rfl⟩ [0, 1, 2, 3, 4, 5, 6, 7, 8, 9, 10, 11] rfl (fun _ => rfl) [0] rfl rfl hl.1 rfl (Nat.le_of_ble_eq_true rfl) rfl rfl ⟨Nat.le_of_ble_eq_true rfl, Nat.le_of_ble_eq_true rfl⟩ dX0_lowestNeighbour_11 (fun r u H locs hw hP hD hS => ?_)
        subst hw
        refine lv_istore (lv' := [(4, .int (q_v (q_nb k i))), (0, .ref h), (1, .int (nI k)), (2, .int (q_v low)), (3, .int (nI i))]) hx hb dX0_lowestNeighbour_14 hl (by decide) rfl (fun ls hl => ?_)
        refine lv_iload hx hb dX0_lowestNeighbour_16 (lv_at hl 0 rfl) ?_
        cases ho : q_nb k i with
        | none =>
          rw [ho] at hl
          have hl : lv_has ls 5 [(4, .int (-1)), (0, .ref h), (1, .int (nI k)), (2, .int (q_v low)), (3, .int (nI i))] := hl
          show W p l e rm_X0_lowestNeighbour s m args below meth c H locs 0 0 Q (F0 m 18 ls [.int (-1)])
          refine lv_if_lt (tgt := 44) hx hb dX0_lowestNeighbour_18 (by decide) (fun hc2 => ?_) (fun hc2 => ?_)
          · skip
            refine lv_iinc (v := (nI (i + 1))) (lv' := [(3, .int (nI (i + 1))), (4, .int (-1)), (0, .ref h), (1, .int (nI k)), (2, .int (q_v low))]) hx hb dX0_lowestNeighbour_44 hl (k := 4) rfl (nI_1 i) (by decide) rfl (fun ls hl => ?_)
            refine lv_goto (tgt := 4) hx hb dX0_lowestNeighbour_47 (by decide) ?_
            exact ih (i + 1) (by omega) low H locs ls (by rw [hlow]; simp only [q_low, ho, q_lowStep]) hP hD hS (lv_sub hl [2, 3, 4, 0] rfl)
          · skip
            exact absurd (by decide) hc2
        | some j =>
          rw [ho] at hl
          have hj : j < 64 := q_nb_lt hk ho
          have hl : lv_has ls 5 [(4, .int (nI j)), (0, .ref h), (1, .int (nI k)), (2, .int (q_v low)), (3, .int (nI i))] := hl
          show W p l e rm_X0_lowestNeighbour s m args below meth c H locs 0 0 Q (F0 m 18 ls [.int (nI j)])
          refine lv_if_lt (tgt := 44) hx hb dX0_lowestNeighbour_18 (by decide) (fun hc2 => ?_) (fun hc2 => ?_)
          · skip
            exact absurd hc2 (nI_pos (by omega))
          · skip
            refine lv_iload_n hx hb dX0_lowestNeighbour_21 rfl (lv_at hl 3 rfl) ?_
            cases hb2 : low with
            | none =>
              rw [hb2] at hl
              have hl : lv_has ls 5 [(4, .int (nI j)), (0, .ref h), (1, .int (nI k)), (2, .int (-1)), (3, .int (nI i))] := hl
              show W p l e rm_X0_lowestNeighbour s m args below meth c H locs 0 0 Q (F0 m 22 ls [.int (-1)])
              refine lv_if_lt (tgt := 41) hx hb dX0_lowestNeighbour_22 (by decide) (fun hc3 => ?_) (fun hc3 => ?_)
              · skip
                refine lv_iload hx hb dX0_lowestNeighbour_41 (lv_at hl 0 rfl) ?_
                refine lv_istore_n (lv' := [(2, .int (nI j)), (4, .int (nI j)), (0, .ref h), (1, .int (nI k)), (3, .int (nI i))]) hx hb dX0_lowestNeighbour_43 rfl hl (by decide) rfl (fun ls hl => ?_)
                refine lv_iinc (v := (nI (i + 1))) (lv' := [(3, .int (nI (i + 1))), (2, .int (nI j)), (4, .int (nI j)), (0, .ref h), (1, .int (nI k))]) hx hb dX0_lowestNeighbour_44 hl (k := 4) rfl (nI_1 i) (by decide) rfl (fun ls hl => ?_)
                refine lv_goto (tgt := 4) hx hb dX0_lowestNeighbour_47 (by decide) ?_
                exact ih (i + 1) (by omega) (some j) H locs ls (by rw [hb2] at hlow; simp only [q_low, ho, ← hlow, q_lowStep]) hP hD hS (lv_sub hl [3, 4, 1, 0] rfl)
              · skip
                exact absurd (by decide) hc3
            | some b =>
              rw [hb2] at hl hlow
              have hb64 : b < 64 := q_low_lt hk hlow.symm
              have hl : lv_has ls 5 [(4, .int (nI j)), (0, .ref h), (1, .int (nI k)), (2, .int (nI b)), (3, .int (nI i))] := hl
              show W p l e rm_X0_lowestNeighbour s m args below meth c H locs 0 0 Q (F0 m 22 ls [.int (nI b)])
              refine lv_if_lt (tgt := 41) hx hb dX0_lowestNeighbour_22 (by decide) (fun hc3 => ?_) (fun hc3 => ?_)
              · skip
                exact absurd hc3 (nI_pos (by omega))
              · skip
                refine lv_aload_n hx hb dX0_lowestNeighbour_25 rfl (lv_at hl 1 rfl) ?_
                refine va_get (D := D) (ci := 0) (v := .ref (ad 11)) (C := RX0) (T := TX0) (N := 15) hx hb hts (fun _ h9 => (List.mem_cons_of_mem _ (List.mem_append_right _ h9))) hown hK hP 0 rfl rfl 11 (by decide) (hts (Cond.fieldLink RX0 33 "FloodGrid$Plain" "crests" "[I") (List.mem_of_getElem? (i := 1) rfl)) (fun _ h9 => h9) rfl dX0_lowestNeighbour_26 ?_
                refine lv_iload hx hb dX0_lowestNeighbour_29 (lv_at hl 0 rfl) ?_
                refine ct_iald (v := cre j) hx hb hK hP 8 0 rfl rfl j rfl (by omega) (by decide) rfl dX0_lowestNeighbour_31 ?_
                refine lv_aload_n hx hb dX0_lowestNeighbour_32 rfl (lv_at hl 1 rfl) ?_
                refine va_get (D := D) (ci := 0) (v := .ref (ad 11)) (C := RX0) (T := TX0) (N := 15) hx hb hts (fun _ h9 => (List.mem_cons_of_mem _ (List.mem_append_right _ h9))) hown hK hP 0 rfl rfl 11 (by decide) (hts (Cond.fieldLink RX0 33 "FloodGrid$Plain" "crests" "[I") (List.mem_of_getElem? (i := 1) rfl)) (fun _ h9 => h9) rfl dX0_lowestNeighbour_33 ?_
                refine lv_iload_n hx hb dX0_lowestNeighbour_36 rfl (lv_at hl 3 rfl) ?_
                refine ct_iald (v := cre b) hx hb hK hP 8 0 rfl rfl b rfl (by omega) (by decide) rfl dX0_lowestNeighbour_37 ?_
                refine lv_icmp_ge (tgt := 44) hx hb dX0_lowestNeighbour_38 (by decide) (fun hc4 => ?_) (fun hc4 => ?_)
                · skip
                  refine lv_iinc (v := (nI (i + 1))) (lv' := [(3, .int (nI (i + 1))), (4, .int (nI j)), (0, .ref h), (1, .int (nI k)), (2, .int (nI b))]) hx hb dX0_lowestNeighbour_44 hl (k := 4) rfl (nI_1 i) (by decide) rfl (fun ls hl => ?_)
                  refine lv_goto (tgt := 4) hx hb dX0_lowestNeighbour_47 (by decide) ?_
                  exact ih (i + 1) (by omega) (some b) H locs ls (by simp only [q_low, ho, ← hlow, q_lowStep]; rw [if_neg (Int32.not_lt.mpr hc4)]) hP hD hS (lv_sub hl [2, 3, 4, 0] rfl)
                · skip
                  refine lv_iload hx hb dX0_lowestNeighbour_41 (lv_at hl 0 rfl) ?_
                  refine lv_istore_n (lv' := [(2, .int (nI j)), (4, .int (nI j)), (0, .ref h), (1, .int (nI k)), (3, .int (nI i))]) hx hb dX0_lowestNeighbour_43 rfl hl (by decide) rfl (fun ls hl => ?_)
                  refine lv_iinc (v := (nI (i + 1))) (lv' := [(3, .int (nI (i + 1))), (2, .int (nI j)), (4, .int (nI j)), (0, .ref h), (1, .int (nI k))]) hx hb dX0_lowestNeighbour_44 hl (k := 4) rfl (nI_1 i) (by decide) rfl (fun ls hl => ?_)
                  refine lv_goto (tgt := 4) hx hb dX0_lowestNeighbour_47 (by decide) ?_
                  exact ih (i + 1) (by omega) (some j) H locs ls (by simp only [q_low, ho, ← hlow, q_lowStep]; rw [if_pos (Int32.not_le.mp hc4)]) hP hD hS (lv_sub hl [3, 4, 1, 0] rfl)
  exact loop 4 0 (by omega) none H locs ls rfl hP hD hS (lv_sub hl [2, 3, 1, 0] rfl)
abbrev rm_X0_give : Room := { frames := 1, cells := 0, slots := 0, locals := 21 }
set_option maxHeartbeats 4000000 in
set_option maxRecDepth 100000 in
theorem c_X0_give (l : Launch) (D : va_G) (cI : ClassId) (h : Nat) (ad : Nat → Nat) (hei wat dam wea dra peo rai : Nat → Int32) (hou bro drd lef : Int32) (cre gai see fou : Nat → Int32) (k : Nat) (hk : k < 64) (o : Option Nat) (ho : ∀ j, o = some j → j < 64) : ct_v (S := Unit) l D yX0_give wsX0_give rm_X0_give [.ref h, .int (nI k), .int (q_v o)] (pW h ad cI hei wat dam wea dra peo rai hou bro drd lef cre gai see fou) [(cI, .int)] (fun _ => True) (fun _ => (pW h ad cI hei wat dam wea dra peo rai hou bro drd lef cre (q_give hei wat dam cre k o gai) see fou)) := by
  refine ct_ofv (cc := cX0_give) (maxL := 5) (by decide) rfl (Nat.le_of_ble_eq_true rfl) ?_
  intro p e s m args below meth c A Q hx hb hml hown hts hin hA hK H locs hP hD hS fin ls hl
  have hown : s.vm.findClass RX0 = some m.cls := hown
  have hl : lv_has ls 5 [(0, .ref h), (1, .int (nI k)), (2, .int (q_v o))] := hl
  cases o with
  | none =>
    have hl : lv_has ls 5 [(0, .ref h), (1, .int (nI k)), (2, .int (-1))] := hl
    refine lv_iload_n hx hb dX0_give_0 rfl (lv_at hl 2 rfl) ?_
    refine lv_if_ge (tgt := 5) hx hb dX0_give_1 (by decide) (fun hc => ?_) (fun hc => ?_)
    · skip
      exact absurd hc (by decide)
    · skip
      exact fin () H locs 0 0 4 ls dX0_give_4 trivial hP hD hS (Nat.le_of_ble_eq_true rfl) (Nat.le_of_ble_eq_true rfl)
  | some j =>
    have hj : j < 64 := ho j rfl
    have hl : lv_has ls 5 [(0, .ref h), (1, .int (nI k)), (2, .int (nI j))] := hl
    refine lv_iload_n hx hb dX0_give_0 rfl (lv_at hl 2 rfl) ?_
    refine lv_if_ge (tgt := 5) hx hb dX0_give_1 (by decide) (fun hc => ?_) (fun hc => ?_)
    · skip
      refine lv_aload_n hx hb dX0_give_5 rfl (lv_at hl 0 rfl) ?_
      refine lv_iload_n hx hb dX0_give_6 rfl (lv_at hl 1 rfl) ?_
      refine ct_Vi (As := [.int (nI k)]) (rest := []) (wr := []) (W1 := fun u => (pW h ad cI hei wat dam wea dra peo rai hou bro drd lef cre gai see fou)) (cells1 := 0) (slots1 := 0) ⟨hx, hb, hml, hown, hts⟩ (c_X0_levelOf l D cI h ad hei wat dam wea dra peo rai hou bro drd lef cre gai see fou k hk) (cwV 1 hts gX0_give_X0_levelOf rfl rfl rfl (by decide +kernel) ⟨Nat.le_of_ble_eq_true rfl, Nat.le_of_ble_eq_true rfl⟩) hK hP hD hS hA [0, 1, 2, 3, 4, 5, 6, 7, 8, 9, 10, 11] [] ⟨rfl, rfl, rfl, rfl, rfl⟩ [0, 1, 2, 3, 4, 5, 6, 7, 8, 9, 10, 11] rfl (fun _ => rfl) [0] rfl (va_recv hK hP (ci := 0) (q0 := 0) rfl rfl) rfl hl.1 rfl (Nat.le_of_ble_eq_true rfl) rfl rfl ⟨Nat.le_of_ble_eq_true rfl, Nat.le_of_ble_eq_true rfl⟩ dX0_give_7 (fun r u H locs hw hP hD hS => ?_)
      subst hw
      refine lv_aload_n hx hb dX0_give_10 rfl (lv_at hl 0 rfl) ?_
      refine va_get (D := D) (ci := 0) (v := .ref (ad 11)) (C := RX0) (T := TX0) (N := 15) hx hb hts (fun _ h9 => (List.mem_cons_of_mem _ (List.mem_append_right _ h9))) hown hK hP 0 rfl rfl 11 (by decide) (hts (Cond.fieldLink RX0 33 "FloodGrid$Plain" "crests" "[I") (List.mem_of_getElem? (i := 1) rfl)) (fun _ h9 => h9) rfl dX0_give_11 ?_
      refine lv_iload_n hx hb dX0_give_14 rfl (lv_at hl 2 rfl) ?_
      refine ct_iald (v := cre j) hx hb hK hP 8 0 rfl rfl j rfl (by omega) (by decide) rfl dX0_give_15 ?_
      refine lv_isub hx hb dX0_give_16 ?_
      refine lv_istore_n (lv' := [(3, .int ((hei k + wat k) - (cre j))), (0, .ref h), (1, .int (nI k)), (2, .int (nI j))]) hx hb dX0_give_17 rfl hl (by decide) rfl (fun ls hl => ?_)
      refine lv_iload_n hx hb dX0_give_18 rfl (lv_at hl 0 rfl) ?_
      refine lv_if_le (tgt := 65) hx hb dX0_give_19 (by decide) (fun hc2 => ?_) (fun hc2 => ?_)
      · skip
        have e9 : q_give hei wat dam cre k (some j) gai = gai := by simp only [q_give]; rw [if_neg (Int32.not_lt.mpr hc2)]
        rw [e9] at fin
        exact fin () H locs 0 0 65 ls dX0_give_65 trivial hP hD hS (Nat.le_of_ble_eq_true rfl) (Nat.le_of_ble_eq_true rfl)
      · skip
        refine lv_iload_n hx hb dX0_give_22 rfl (lv_at hl 0 rfl) ?_
        refine lv_iconst (v := 2) hx hb dX0_give_23 (by decide) ?_
        refine lv_idiv hx hb dX0_give_24 (by decide) ?_
        refine lv_aload_n hx hb dX0_give_25 rfl (lv_at hl 1 rfl) ?_
        refine va_get (D := D) (ci := 0) (v := .ref (ad 1)) (C := RX0) (T := TX0) (N := 15) hx hb hts (fun _ h9 => (List.mem_cons_of_mem _ (List.mem_append_right _ h9))) hown hK hP 0 rfl rfl 1 (by decide) (hts (Cond.fieldLink RX0 15 "FloodGrid$Plain" "water" "[I") (List.mem_of_getElem? (i := 2) rfl)) (fun _ h9 => h9) rfl dX0_give_26 ?_
        refine lv_iload_n hx hb dX0_give_29 rfl (lv_at hl 2 rfl) ?_
        refine ct_iald (v := wat k) hx hb hK hP 2 0 rfl rfl k rfl (by omega) (by decide) rfl dX0_give_30 ?_
        refine lv_aload_n hx hb dX0_give_31 rfl (lv_at hl 1 rfl) ?_
        refine va_get (D := D) (ci := 0) (v := .ref (ad 2)) (C := RX0) (T := TX0) (N := 15) hx hb hts (fun _ h9 => (List.mem_cons_of_mem _ (List.mem_append_right _ h9))) hown hK hP 0 rfl rfl 2 (by decide) (hts (Cond.fieldLink RX0 18 "FloodGrid$Plain" "dam" "[I") (List.mem_of_getElem? (i := 3) rfl)) (fun _ h9 => h9) rfl dX0_give_32 ?_
        refine lv_iload_n hx hb dX0_give_35 rfl (lv_at hl 2 rfl) ?_
        refine ct_iald (v := dam k) hx hb hK hP 3 0 rfl rfl k rfl (by omega) (by decide) rfl dX0_give_36 ?_
        refine lv_isub hx hb dX0_give_37 ?_
        refine ct_mmin (v := (q_given hei wat dam cre k j)) hx hb (hml.trans hl.1.symm) hown (hts (Cond.methodLink RX0 108 Lib.Math.min.name) (List.mem_of_getElem? (i := 4) rfl)) (hts (Cond.static Lib.Math.min.name) (List.mem_of_getElem? (i := 5) rfl)) (hts (Cond.initialized "java/lang/Math") (List.mem_of_getElem? (i := 6) rfl)) (hts (Cond.code Lib.Math.min.name Lib.Math.min.code 2 (some .int)) (List.mem_of_getElem? (i := 7) rfl)) (Nat.le_of_ble_eq_true rfl) (Nat.le_of_ble_eq_true rfl) (Nat.le_of_ble_eq_true rfl) (Nat.le_of_ble_eq_true rfl) rfl dX0_give_38 ?_
        have e9 : q_give hei wat dam cre k (some j) gai = q_move gai k j (q_given hei wat dam cre k j) := by simp only [q_give]; rw [if_pos (Int32.not_le.mp hc2)]
        rw [e9] at fin
        refine lv_istore (lv' := [(4, .int (q_given hei wat dam cre k j)), (3, .int ((hei k + wat k) - (cre j))), (0, .ref h), (1, .int (nI k)), (2, .int (nI j))]) hx hb dX0_give_41 hl (by decide) rfl (fun ls hl => ?_)
        refine lv_aload_n hx hb dX0_give_43 rfl (lv_at hl 2 rfl) ?_
        refine va_get (D := D) (ci := 0) (v := .ref (ad 12)) (C := RX0) (T := TX0) (N := 15) hx hb hts (fun _ h9 => (List.mem_cons_of_mem _ (List.mem_append_right _ h9))) hown hK hP 0 rfl rfl 12 (by decide) (hts (Cond.fieldLink RX0 36 "FloodGrid$Plain" "gained" "[I") (List.mem_of_getElem? (i := 8) rfl)) (fun _ h9 => h9) rfl dX0_give_44 ?_
        refine lv_iload_n hx hb dX0_give_47 rfl (lv_at hl 3 rfl) ?_
        refine lv_dup2_11 hx hb dX0_give_48 rfl rfl ?_
        refine ct_iald (v := gai k) hx hb hK hP 9 0 rfl rfl k rfl (by omega) (by decide) rfl dX0_give_49 ?_
        refine lv_iload hx hb dX0_give_50 (lv_at hl 0 rfl) ?_
        refine lv_isub hx hb dX0_give_52 ?_
        refine ct_iast (g := upd gai k ((gai k) - (q_given hei wat dam cre k j))) (ws1 := (pW h ad cI hei wat dam wea dra peo rai hou bro drd lef cre (upd gai k ((gai k) - (q_given hei wat dam cre k j))) see fou)) hx hb hK hP hD hS 9 0 rfl rfl k rfl (by omega) (by decide) rfl rfl dX0_give_53 (fun H locs hP hD hS => ?_)
        refine lv_aload_n hx hb dX0_give_54 rfl (lv_at hl 2 rfl) ?_
        refine va_get (D := D) (ci := 0) (v := .ref (ad 12)) (C := RX0) (T := TX0) (N := 15) hx hb hts (fun _ h9 => (List.mem_cons_of_mem _ (List.mem_append_right _ h9))) hown hK hP 0 rfl rfl 12 (by decide) (hts (Cond.fieldLink RX0 36 "FloodGrid$Plain" "gained" "[I") (List.mem_of_getElem? (i := 8) rfl)) (fun _ h9 => h9) rfl dX0_give_55 ?_
        refine lv_iload_n hx hb dX0_give_58 rfl (lv_at hl 4 rfl) ?_
        refine lv_dup2_11 hx hb dX0_give_59 rfl rfl ?_
        refine ct_iald (v := (upd gai k ((gai k) - (q_given hei wat dam cre k j))) j) hx hb hK hP 9 0 rfl rfl j rfl (by omega) (by decide) rfl dX0_give_60 ?_
        refine lv_iload hx hb dX0_give_61 (lv_at hl 0 rfl) ?_
        refine lv_iadd hx hb dX0_give_63 ?_
        refine ct_iast (g := upd (upd gai k ((gai k) - (q_given hei wat dam cre k j))) j (((upd gai k ((gai k) - (q_given hei wat dam cre k j))) j) + (q_given hei wat dam cre k j))) (ws1 := (pW h ad cI hei wat dam wea dra peo rai hou bro drd lef cre (upd (upd gai k ((gai k) - (q_given hei wat dam cre k j))) j (((upd gai k ((gai k) - (q_given hei wat dam cre k j))) j) + (q_given hei wat dam cre k j))) see fou)) hx hb hK hP hD hS 9 0 rfl rfl j rfl (by omega) (by decide) rfl rfl dX0_give_64 (fun H locs hP hD hS => ?_)
        exact fin () H locs 0 0 65 ls dX0_give_65 trivial hP hD hS (Nat.le_of_ble_eq_true rfl) (Nat.le_of_ble_eq_true rfl)
    · skip
      exact absurd (nI_pos' (by omega)) hc
end
section
abbrev rm_X0_letRainFall : Room := { frames := 1, cells := 0, slots := 0, locals := 22 }
set_option maxHeartbeats 4000000 in
set_option maxRecDepth 100000 in
theorem c_X0_rain (l : Launch) (D : va_G) (cI : ClassId) (h : Nat) (ad : Nat → Nat) (hei wat dam wea dra peo rai : Nat → Int32) (bro drd lef : Int32) (cre gai see fou : Nat → Int32) (t : Nat) (ht : t < 2 ^ 31) : ct_v (S := Unit) l D yX0_letRainFall wsX0_letRainFall rm_X0_letRainFall [.ref h] (pW h ad cI hei wat dam wea dra peo rai (nI t) bro drd lef cre gai see fou) [(cI, .int)] (fun _ => True) (fun _ => (pW h ad cI hei (q_w1 rai t wat) dam wea dra peo rai (nI t) bro drd lef cre gai see fou)) := by
  refine ct_ofv (cc := cX0_letRainFall) (maxL := 3) (by decide) rfl (Nat.le_of_ble_eq_true rfl) ?_
  intro p e s m args below meth c A Q hx hb hml hown hts hin hA hK H locs hP hD hS fin ls hl
  have hown : s.vm.findClass RX0 = some m.cls := hown
  have hl : lv_has ls 3 [(0, .ref h)] := hl
  refine lv_aload_n hx hb dX0_letRainFall_0 rfl (lv_at hl 0 rfl) ?_
  refine va_get (D := D) (ci := 0) (v := .ref (ad 6)) (C := RX0) (T := TX0) (N := 15) hx hb hts (fun _ h9 => (List.mem_cons_of_mem _ (List.mem_append_right _ h9))) hown hK hP 0 rfl rfl 6 (by decide) (hts (Cond.fieldLink RX0 30 "FloodGrid$Plain" "rain" "[I") (List.mem_of_getElem? (i := 1) rfl)) (fun _ h9 => h9) rfl dX0_letRainFall_1 ?_
  refine lv_aload_n hx hb dX0_letRainFall_4 rfl (lv_at hl 0 rfl) ?_
  refine va_get (D := D) (ci := 0) (v := .int (nI t)) (C := RX0) (T := TX0) (N := 15) hx hb hts (fun _ h9 => (List.mem_cons_of_mem _ (List.mem_append_right _ h9))) hown hK hP 0 rfl rfl 7 (by decide) (hts (Cond.fieldLink RX0 57 "FloodGrid$Plain" "hour" "I") (List.mem_of_getElem? (i := 2) rfl)) (fun _ h9 => h9) rfl dX0_letRainFall_5 ?_
  refine lv_bipush (v := 12) hx hb dX0_letRainFall_8 (by decide) ?_
  refine ct_Si (As := [.int (nI t), .int 12]) (rest := [.ref (ad 6)]) (wr := [(h, .inr (0, [.ref (ad 0), .ref (ad 1), .ref (ad 2), .ref (ad 3), .ref (ad 4), .ref (ad 5), .ref (ad 6), .int (nI t), .int bro, .int drd, .int lef, .ref (ad 11), .ref (ad 12), .ref (ad 13), .ref (ad 14)])), ((ad 0), .inl (cI, 64, .inl hei)), ((ad 1), .inl (cI, 64, .inl wat)), ((ad 2), .inl (cI, 64, .inl dam)), ((ad 3), .inl (cI, 64, .inl wea)), ((ad 4), .inl (cI, 64, .inl dra)), ((ad 5), .inl (cI, 64, .inl peo)), ((ad 6), .inl (cI, 12, .inl rai)), ((ad 11), .inl (cI, 64, .inl cre)), ((ad 12), .inl (cI, 64, .inl gai)), ((ad 13), .inl (cI, 64, .inl see)), ((ad 14), .inl (cI, 64, .inl fou))]) (W1 := fun u => (pW h ad cI hei wat dam wea dra peo rai (nI t) bro drd lef cre gai see fou)) (cells1 := 0) (slots1 := 0) ⟨hx, hb, hml, hown, hts⟩ (c_floorMod l D cI t ht) (va_cwS 2 hts gX0_letRainFall_J9_floorMod_7cf53 rfl rfl rfl (by decide +kernel) ⟨Nat.le_of_ble_eq_true rfl, Nat.le_of_ble_eq_true rfl⟩) hK hP hD hS hA [] [0, 1, 2, 3, 4, 5, 6, 7, 8, 9, 10, 11] ⟨rfl, rfl, rfl, rfl, rfl⟩ [0, 1, 2, 3, 4, 5, 6, 7, 8, 9, 10, 11] rfl (fun _ => rfl) [0] rfl rfl hl.1 rfl (Nat.le_of_ble_eq_true rfl) rfl rfl ⟨Nat.le_of_ble_eq_true rfl, Nat.le_of_ble_eq_true rfl⟩ dX0_letRainFall_10 (fun r u H locs hw hP hD hS => ?_)
  subst hw
  refine ct_iald (v := rai (t % 12)) hx hb hK hP 7 0 rfl rfl (t % 12) rfl (by omega) (by decide) rfl dX0_letRainFall_13 ?_
  refine lv_istore_n (lv' := [(1, .int (rai (t % 12))), (0, .ref h)]) hx hb dX0_letRainFall_14 rfl hl (by decide) rfl (fun ls hl => ?_)
  refine lv_iconst (v := 0) hx hb dX0_letRainFall_15 (by decide) ?_
  refine lv_istore_n (lv' := [(2, .int 0), (1, .int (rai (t % 12))), (0, .ref h)]) hx hb dX0_letRainFall_16 rfl hl (by decide) rfl (fun ls hl => ?_)
  have loop : ∀ (fu i : Nat), i + fu = 64 → ∀ (g : Nat → Int32) (H : Heap) (locs : List Loc) (ls : Array Slot), (g = q_mix i (q_w1 rai t wat) wat) → va_P D vwCl (pW h ad cI hei g dam wea dra peo rai (nI t) bro drd lef cre gai see fou) H → va_D A (pW h ad cI hei g dam wea dra peo rai (nI t) bro drd lef cre gai see fou) → va_S A s.heap H locs → lv_has ls 3 [(0, .ref h), (1, .int (rai (t % 12))), (2, .int (nI i))] → W p l e rm_X0_letRainFall s m args below meth c H locs 0 0 Q (F0 m 17 ls []) := by
    intro fu
    induction fu with
    | zero =>
      intro i hi g H locs ls hg hP hD hS hl
      obtain rfl : 64 = i := by omega
      refine lv_iload_n hx hb dX0_letRainFall_17 rfl (lv_at hl 2 rfl) ?_
      refine lv_bipush (v := 64) hx hb dX0_letRainFall_18 (by decide) ?_
      refine lv_icmp_ge (tgt := 39) hx hb dX0_letRainFall_20 (by decide) (fun hc => ?_) (fun hc => ?_)
      · skip
        obtain ⟨hP, hD⟩ := ct_ext hP hD 2 rfl (q_w1 rai t wat) (fun j hj => by rw [hg]; exact q_mix_lt hj) (ws1 := (pW h ad cI hei (q_w1 rai t wat) dam wea dra peo rai (nI t) bro drd lef cre gai see fou)) rfl
        exact fin () H locs 0 0 39 ls dX0_letRainFall_39 trivial hP hD hS (Nat.le_of_ble_eq_true rfl) (Nat.le_of_ble_eq_true rfl)
      · skip
        exact absurd (show (64 : Int32) ≤ nI 64 by decide) hc
    | succ fu ih =>
      intro i hi g H locs ls hg hP hD hS hl
      have hlt : i < 64 := by omega
      refine lv_iload_n hx hb dX0_letRainFall_17 rfl (lv_at hl 2 rfl) ?_
      refine lv_bipush (v := 64) hx hb dX0_letRainFall_18 (by decide) ?_
      refine lv_icmp_ge (tgt := 39) hx hb dX0_letRainFall_20 (by decide) (fun hc => ?_) (fun hc => ?_)
      · skip
        exact absurd hc (nI_ge (b := 64) hlt (by decide))
      · skip
        refine lv_aload_n hx hb dX0_letRainFall_23 rfl (lv_at hl 0 rfl) ?_
        refine va_get (D := D) (ci := 0) (v := .ref (ad 1)) (C := RX0) (T := TX0) (N := 15) hx hb hts (fun _ h9 => (List.mem_cons_of_mem _ (List.mem_append_right _ h9))) hown hK hP 0 rfl rfl 1 (by decide) (hts (Cond.fieldLink RX0 15 "FloodGrid$Plain" "water" "[I") (List.mem_of_getElem? (i := 3) rfl)) (fun _ h9 => h9) rfl dX0_letRainFall_24 ?_
        refine lv_iload_n hx hb dX0_letRainFall_27 rfl (lv_at hl 2 rfl) ?_
        refine lv_dup2_11 hx hb dX0_letRainFall_28 rfl rfl ?_
        refine ct_iald (v := (wat i)) hx hb hK hP 2 0 rfl rfl i rfl (by omega) (by decide) (by rw [hg, q_mix_at]) dX0_letRainFall_29 ?_
        refine lv_iload_n hx hb dX0_letRainFall_30 rfl (lv_at hl 1 rfl) ?_
        refine lv_iadd hx hb dX0_letRainFall_31 ?_
        refine ct_iast (g := upd g i ((wat i) + (rai (t % 12)))) (ws1 := (pW h ad cI hei (upd g i ((wat i) + (rai (t % 12)))) dam wea dra peo rai (nI t) bro drd lef cre gai see fou)) hx hb hK hP hD hS 2 0 rfl rfl i rfl (by omega) (by decide) rfl rfl dX0_letRainFall_32 (fun H locs hP hD hS => ?_)
        refine lv_iinc (v := (nI (i + 1))) (lv' := [(2, .int (nI (i + 1))), (0, .ref h), (1, .int (rai (t % 12)))]) hx hb dX0_letRainFall_33 hl (k := 2) rfl (nI_1 i) (by decide) rfl (fun ls hl => ?_)
        refine lv_goto (tgt := 17) hx hb dX0_letRainFall_36 (by decide) ?_
        exact ih (i + 1) (by omega) (upd g i (wat i + rai (t % 12))) H locs ls (by rw [hg]; exact q_mix_up rfl) hP hD hS (lv_sub hl [1, 2, 0] rfl)
  exact loop 64 0 (by omega) wat H locs ls (q_mix_0 _ _).symm hP hD hS (lv_sub hl [2, 1, 0] rfl)
abbrev rm_X0_drainCells : Room := { frames := 1, cells := 0, slots := 0, locals := 21 }
set_option maxHeartbeats 4000000 in
set_option maxRecDepth 100000 in
theorem c_X0_drain (l : Launch) (D : va_G) (cI : ClassId) (h : Nat) (ad : Nat → Nat) (hei wat dam wea dra peo rai : Nat → Int32) (hou bro drd lef : Int32) (cre gai see fou : Nat → Int32) : ct_v (S := Unit) l D yX0_drainCells wsX0_drainCells rm_X0_drainCells [.ref h] (pW h ad cI hei wat dam wea dra peo rai hou bro drd lef cre gai see fou) [(cI, .int)] (fun _ => True) (fun _ => (pW h ad cI hei (q_w3 dra wat) dam wea dra peo rai hou bro (drd + q_sum (q_tak dra wat) 64) lef cre gai see fou)) := by
  refine ct_ofv (cc := cX0_drainCells) (maxL := 3) (by decide) rfl (Nat.le_of_ble_eq_true rfl) ?_
  intro p e s m args below meth c A Q hx hb hml hown hts hin hA hK H locs hP hD hS fin ls hl
  have hown : s.vm.findClass RX0 = some m.cls := hown
  have hl : lv_has ls 3 [(0, .ref h)] := hl
  refine lv_iconst (v := 0) hx hb dX0_drainCells_0 (by decide) ?_
  refine lv_istore_n (lv' := [(1, .int 0), (0, .ref h)]) hx hb dX0_drainCells_1 rfl hl (by decide) rfl (fun ls hl => ?_)
  have loop : ∀ (fu i : Nat), i + fu = 64 → ∀ (g : Nat → Int32) (b : Int32) (H : Heap) (locs : List Loc) (ls : Array Slot), (g = q_mix i (q_w3 dra wat) wat) → (b = drd + q_sum (q_tak dra wat) i) → va_P D vwCl (pW h ad cI hei g dam wea dra peo rai hou bro b lef cre gai see fou) H → va_D A (pW h ad cI hei g dam wea dra peo rai hou bro b lef cre gai see fou) → va_S A s.heap H locs → lv_has ls 3 [(0, .ref h), (1, .int (nI i))] → W p l e rm_X0_drainCells s m args below meth c H locs 0 0 Q (F0 m 2 ls []) := by
    intro fu
    induction fu with
    | zero =>
      intro i hi g b H locs ls hg hb2 hP hD hS hl
      obtain rfl : 64 = i := by omega
      refine lv_iload_n hx hb dX0_drainCells_2 rfl (lv_at hl 1 rfl) ?_
      refine lv_bipush (v := 64) hx hb dX0_drainCells_3 (by decide) ?_
      refine lv_icmp_ge (tgt := 50) hx hb dX0_drainCells_5 (by decide) (fun hc => ?_) (fun hc => ?_)
      · skip
        subst hb2
        obtain ⟨hP, hD⟩ := ct_ext hP hD 2 rfl (q_w3 dra wat) (fun j hj => by rw [hg]; exact q_mix_lt hj) (ws1 := (pW h ad cI hei (q_w3 dra wat) dam wea dra peo rai hou bro (drd + q_sum (q_tak dra wat) 64) lef cre gai see fou)) rfl
        exact fin () H locs 0 0 50 ls dX0_drainCells_50 trivial hP hD hS (Nat.le_of_ble_eq_true rfl) (Nat.le_of_ble_eq_true rfl)
      · skip
        exact absurd (show (64 : Int32) ≤ nI 64 by decide) hc
    | succ fu ih =>
      intro i hi g b H locs ls hg hb2 hP hD hS hl
      have hlt : i < 64 := by omega
      refine lv_iload_n hx hb dX0_drainCells_2 rfl (lv_at hl 1 rfl) ?_
      refine lv_bipush (v := 64) hx hb dX0_drainCells_3 (by decide) ?_
      refine lv_icmp_ge (tgt := 50) hx hb dX0_drainCells_5 (by decide) (fun hc => ?_) (fun hc => ?_)
      · skip
        exact absurd hc (nI_ge (b := 64) hlt (by decide))
      · skip
        refine lv_aload_n hx hb dX0_drainCells_8 rfl (lv_at hl 0 rfl) ?_
        refine va_get (D := D) (ci := 0) (v := .ref (ad 4)) (C := RX0) (T := TX0) (N := 15) hx hb hts (fun _ h9 => (List.mem_cons_of_mem _ (List.mem_append_right _ h9))) hown hK hP 0 rfl rfl 4 (by decide) (hts (Cond.fieldLink RX0 24 "FloodGrid$Plain" "drain" "[I") (List.mem_of_getElem? (i := 1) rfl)) (fun _ h9 => h9) rfl dX0_drainCells_9 ?_
        refine lv_iload_n hx hb dX0_drainCells_12 rfl (lv_at hl 1 rfl) ?_
        refine ct_iald (v := dra i) hx hb hK hP 5 0 rfl rfl i rfl (by omega) (by decide) rfl dX0_drainCells_13 ?_
        refine lv_aload_n hx hb dX0_drainCells_14 rfl (lv_at hl 0 rfl) ?_
        refine va_get (D := D) (ci := 0) (v := .ref (ad 1)) (C := RX0) (T := TX0) (N := 15) hx hb hts (fun _ h9 => (List.mem_cons_of_mem _ (List.mem_append_right _ h9))) hown hK hP 0 rfl rfl 1 (by decide) (hts (Cond.fieldLink RX0 15 "FloodGrid$Plain" "water" "[I") (List.mem_of_getElem? (i := 2) rfl)) (fun _ h9 => h9) rfl dX0_drainCells_15 ?_
        refine lv_iload_n hx hb dX0_drainCells_18 rfl (lv_at hl 1 rfl) ?_
        refine ct_iald (v := (wat i)) hx hb hK hP 2 0 rfl rfl i rfl (by omega) (by decide) (by rw [hg, q_mix_at]) dX0_drainCells_19 ?_
        refine ct_mmin (v := (q_tak dra wat i)) hx hb (hml.trans hl.1.symm) hown (hts (Cond.methodLink RX0 108 Lib.Math.min.name) (List.mem_of_getElem? (i := 3) rfl)) (hts (Cond.static Lib.Math.min.name) (List.mem_of_getElem? (i := 4) rfl)) (hts (Cond.initialized "java/lang/Math") (List.mem_of_getElem? (i := 5) rfl)) (hts (Cond.code Lib.Math.min.name Lib.Math.min.code 2 (some .int)) (List.mem_of_getElem? (i := 6) rfl)) (Nat.le_of_ble_eq_true rfl) (Nat.le_of_ble_eq_true rfl) (Nat.le_of_ble_eq_true rfl) (Nat.le_of_ble_eq_true rfl) rfl dX0_drainCells_20 ?_
        refine lv_istore_n (lv' := [(2, .int (q_tak dra wat i)), (0, .ref h), (1, .int (nI i))]) hx hb dX0_drainCells_23 rfl hl (by decide) rfl (fun ls hl => ?_)
        refine lv_aload_n hx hb dX0_drainCells_24 rfl (lv_at hl 1 rfl) ?_
        refine va_get (D := D) (ci := 0) (v := .ref (ad 1)) (C := RX0) (T := TX0) (N := 15) hx hb hts (fun _ h9 => (List.mem_cons_of_mem _ (List.mem_append_right _ h9))) hown hK hP 0 rfl rfl 1 (by decide) (hts (Cond.fieldLink RX0 15 "FloodGrid$Plain" "water" "[I") (List.mem_of_getElem? (i := 2) rfl)) (fun _ h9 => h9) rfl dX0_drainCells_25 ?_
        refine lv_iload_n hx hb dX0_drainCells_28 rfl (lv_at hl 2 rfl) ?_
        refine lv_dup2_11 hx hb dX0_drainCells_29 rfl rfl ?_
        refine ct_iald (v := (wat i)) hx hb hK hP 2 0 rfl rfl i rfl (by omega) (by decide) (by rw [hg, q_mix_at]) dX0_drainCells_30 ?_
        refine lv_iload_n hx hb dX0_drainCells_31 rfl (lv_at hl 0 rfl) ?_
        refine lv_isub hx hb dX0_drainCells_32 ?_
        refine ct_iast (g := upd g i ((wat i) - (q_tak dra wat i))) (ws1 := (pW h ad cI hei (upd g i ((wat i) - (q_tak dra wat i))) dam wea dra peo rai hou bro b lef cre gai see fou)) hx hb hK hP hD hS 2 0 rfl rfl i rfl (by omega) (by decide) rfl rfl dX0_drainCells_33 (fun H locs hP hD hS => ?_)
        refine lv_aload_n hx hb dX0_drainCells_34 rfl (lv_at hl 1 rfl) ?_
        refine lv_dup hx hb dX0_drainCells_35 rfl ?_
        refine va_get (D := D) (ci := 0) (v := .int b) (C := RX0) (T := TX0) (N := 15) hx hb hts (fun _ h9 => (List.mem_cons_of_mem _ (List.mem_append_right _ h9))) hown hK hP 0 rfl rfl 9 (by decide) (hts (Cond.fieldLink RX0 64 "FloodGrid$Plain" "drained" "I") (List.mem_of_getElem? (i := 7) rfl)) (fun _ h9 => h9) rfl dX0_drainCells_36 ?_
        refine lv_iload_n hx hb dX0_drainCells_39 rfl (lv_at hl 0 rfl) ?_
        refine lv_iadd hx hb dX0_drainCells_40 ?_
        refine va_put (D := D) (ci := 0) (v := .int (b + (q_tak dra wat i))) (ty := .int) (C := RX0) (T := TX0) (N := 15) hx hb hts (fun _ h9 => (List.mem_cons_of_mem _ (List.mem_append_right _ h9))) tyX0 tyX0_ok nmX0 hown hK hP hD hS 0 rfl rfl 9 (by decide) (hts (Cond.fieldLink RX0 64 "FloodGrid$Plain" "drained" "I") (List.mem_of_getElem? (i := 7) rfl)) (fun _ h9 => h9) rfl (by decide +kernel) rfl rfl (Nat.le_of_ble_eq_true rfl) dX0_drainCells_41 (fun H locs hP hD hS => ?_)
        have hP : va_P D vwCl (pW h ad cI hei (upd g i ((wat i) - (q_tak dra wat i))) dam wea dra peo rai hou bro (b + (q_tak dra wat i)) lef cre gai see fou) H := hP
        have hD : va_D A (pW h ad cI hei (upd g i ((wat i) - (q_tak dra wat i))) dam wea dra peo rai hou bro (b + (q_tak dra wat i)) lef cre gai see fou) := hD
        refine lv_iinc (v := (nI (i + 1))) (lv' := [(1, .int (nI (i + 1))), (2, .int (q_tak dra wat i)), (0, .ref h)]) hx hb dX0_drainCells_44 hl (k := 2) rfl (nI_1 i) (by decide) rfl (fun ls hl => ?_)
        refine lv_goto (tgt := 2) hx hb dX0_drainCells_47 (by decide) ?_
        exact ih (i + 1) (by omega) (upd g i (wat i - q_tak dra wat i)) (b + q_tak dra wat i) H locs ls (by rw [hg]; exact q_mix_up rfl) (by rw [hb2]; exact q_sum_up _ _ _) hP hD hS (lv_sub hl [2, 0] rfl)
  exact loop 64 0 (by omega) wat drd H locs ls (q_mix_0 _ _).symm (Int32.add_zero _).symm hP hD hS (lv_sub hl [1, 0] rfl)
abbrev rm_X0_leaveTowns : Room := { frames := 1, cells := 0, slots := 0, locals := 21 }
set_option maxHeartbeats 4000000 in
set_option maxRecDepth 100000 in
theorem c_X0_leave (l : Launch) (D : va_G) (cI : ClassId) (h : Nat) (ad : Nat → Nat) (hei wat dam wea dra peo rai : Nat → Int32) (hou bro drd lef : Int32) (cre gai see fou : Nat → Int32) : ct_v (S := Unit) l D yX0_leaveTowns wsX0_leaveTowns rm_X0_leaveTowns [.ref h] (pW h ad cI hei wat dam wea dra peo rai hou bro drd lef cre gai see fou) [(cI, .int)] (fun _ => True) (fun _ => (pW h ad cI hei wat dam wea dra (q_peo wat peo) rai hou bro drd (lef + q_sum (q_lv wat peo) 64) cre gai see fou)) := by
  refine ct_ofv (cc := cX0_leaveTowns) (maxL := 3) (by decide) rfl (Nat.le_of_ble_eq_true rfl) ?_
  intro p e s m args below meth c A Q hx hb hml hown hts hin hA hK H locs hP hD hS fin ls hl
  have hown : s.vm.findClass RX0 = some m.cls := hown
  have hl : lv_has ls 3 [(0, .ref h)] := hl
  refine lv_iconst (v := 0) hx hb dX0_leaveTowns_0 (by decide) ?_
  refine lv_istore_n (lv' := [(1, .int 0), (0, .ref h)]) hx hb dX0_leaveTowns_1 rfl hl (by decide) rfl (fun ls hl => ?_)
  have loop : ∀ (fu i : Nat), i + fu = 64 → ∀ (g : Nat → Int32) (b : Int32) (H : Heap) (locs : List Loc) (ls : Array Slot), (g = q_mix i (q_peo wat peo) peo) → (b = lef + q_sum (q_lv wat peo) i) → va_P D vwCl (pW h ad cI hei wat dam wea dra g rai hou bro drd b cre gai see fou) H → va_D A (pW h ad cI hei wat dam wea dra g rai hou bro drd b cre gai see fou) → va_S A s.heap H locs → lv_has ls 3 [(0, .ref h), (1, .int (nI i))] → W p l e rm_X0_leaveTowns s m args below meth c H locs 0 0 Q (F0 m 2 ls []) := by
    intro fu
    induction fu with
    | zero =>
      intro i hi g b H locs ls hg hb2 hP hD hS hl
      obtain rfl : 64 = i := by omega
      refine lv_iload_n hx hb dX0_leaveTowns_2 rfl (lv_at hl 1 rfl) ?_
      refine lv_bipush (v := 64) hx hb dX0_leaveTowns_3 (by decide) ?_
      refine lv_icmp_ge (tgt := 64) hx hb dX0_leaveTowns_5 (by decide) (fun hc => ?_) (fun hc => ?_)
      · skip
        subst hb2
        obtain ⟨hP, hD⟩ := ct_ext hP hD 6 rfl (q_peo wat peo) (fun j hj => by rw [hg]; exact q_mix_lt hj) (ws1 := (pW h ad cI hei wat dam wea dra (q_peo wat peo) rai hou bro drd (lef + q_sum (q_lv wat peo) 64) cre gai see fou)) rfl
        exact fin () H locs 0 0 64 ls dX0_leaveTowns_64 trivial hP hD hS (Nat.le_of_ble_eq_true rfl) (Nat.le_of_ble_eq_true rfl)
      · skip
        exact absurd (show (64 : Int32) ≤ nI 64 by decide) hc
    | succ fu ih =>
      intro i hi g b H locs ls hg hb2 hP hD hS hl
      have hlt : i < 64 := by omega
      refine lv_iload_n hx hb dX0_leaveTowns_2 rfl (lv_at hl 1 rfl) ?_
      refine lv_bipush (v := 64) hx hb dX0_leaveTowns_3 (by decide) ?_
      refine lv_icmp_ge (tgt := 64) hx hb dX0_leaveTowns_5 (by decide) (fun hc => ?_) (fun hc => ?_)
      · skip
        exact absurd hc (nI_ge (b := 64) hlt (by decide))
      · skip
        refine lv_aload_n hx hb dX0_leaveTowns_8 rfl (lv_at hl 0 rfl) ?_
        refine va_get (D := D) (ci := 0) (v := .ref (ad 1)) (C := RX0) (T := TX0) (N := 15) hx hb hts (fun _ h9 => (List.mem_cons_of_mem _ (List.mem_append_right _ h9))) hown hK hP 0 rfl rfl 1 (by decide) (hts (Cond.fieldLink RX0 15 "FloodGrid$Plain" "water" "[I") (List.mem_of_getElem? (i := 1) rfl)) (fun _ h9 => h9) rfl dX0_leaveTowns_9 ?_
        refine lv_iload_n hx hb dX0_leaveTowns_12 rfl (lv_at hl 1 rfl) ?_
        refine ct_iald (v := wat i) hx hb hK hP 2 0 rfl rfl i rfl (by omega) (by decide) rfl dX0_leaveTowns_13 ?_
        refine lv_iconst (v := 3) hx hb dX0_leaveTowns_14 (by decide) ?_
        refine lv_icmp_lt (tgt := 58) hx hb dX0_leaveTowns_15 (by decide) (fun hc2 => ?_) (fun hc2 => ?_)
        · skip
          refine lv_iinc (v := (nI (i + 1))) (lv' := [(1, .int (nI (i + 1))), (0, .ref h)]) hx hb dX0_leaveTowns_58 hl (k := 1) rfl (nI_1 i) (by decide) rfl (fun ls hl => ?_)
          have hn3 : ¬ 3 ≤ wat i := Int32.not_le.mpr hc2
          refine lv_goto (tgt := 2) hx hb dX0_leaveTowns_61 (by decide) ?_
          exact ih (i + 1) (by omega) g b H locs ls (by rw [hg]; exact q_mix_same (by simp only [q_peo]; rw [if_neg hn3])) (by rw [hb2]; exact q_sum_no _ _ _ (by simp only [q_lv]; rw [if_neg hn3])) hP hD hS (lv_sub hl [1, 0] rfl)
        · skip
          refine lv_aload_n hx hb dX0_leaveTowns_18 rfl (lv_at hl 0 rfl) ?_
          refine va_get (D := D) (ci := 0) (v := .ref (ad 5)) (C := RX0) (T := TX0) (N := 15) hx hb hts (fun _ h9 => (List.mem_cons_of_mem _ (List.mem_append_right _ h9))) hown hK hP 0 rfl rfl 5 (by decide) (hts (Cond.fieldLink RX0 27 "FloodGrid$Plain" "people" "[I") (List.mem_of_getElem? (i := 2) rfl)) (fun _ h9 => h9) rfl dX0_leaveTowns_19 ?_
          refine lv_iload_n hx hb dX0_leaveTowns_22 rfl (lv_at hl 1 rfl) ?_
          refine ct_iald (v := (peo i)) hx hb hK hP 6 0 rfl rfl i rfl (by omega) (by decide) (by rw [hg, q_mix_at]) dX0_leaveTowns_23 ?_
          refine lv_iconst (v := 3) hx hb dX0_leaveTowns_24 (by decide) ?_
          refine lv_idiv hx hb dX0_leaveTowns_25 (by decide) ?_
          refine lv_iconst (v := 1) hx hb dX0_leaveTowns_26 (by decide) ?_
          refine lv_iadd hx hb dX0_leaveTowns_27 ?_
          refine lv_aload_n hx hb dX0_leaveTowns_28 rfl (lv_at hl 0 rfl) ?_
          refine va_get (D := D) (ci := 0) (v := .ref (ad 5)) (C := RX0) (T := TX0) (N := 15) hx hb hts (fun _ h9 => (List.mem_cons_of_mem _ (List.mem_append_right _ h9))) hown hK hP 0 rfl rfl 5 (by decide) (hts (Cond.fieldLink RX0 27 "FloodGrid$Plain" "people" "[I") (List.mem_of_getElem? (i := 2) rfl)) (fun _ h9 => h9) rfl dX0_leaveTowns_29 ?_
          refine lv_iload_n hx hb dX0_leaveTowns_32 rfl (lv_at hl 1 rfl) ?_
          refine ct_iald (v := (peo i)) hx hb hK hP 6 0 rfl rfl i rfl (by omega) (by decide) (by rw [hg, q_mix_at]) dX0_leaveTowns_33 ?_
          refine ct_mmin (v := (i_min (peo i / 3 + 1) (peo i))) hx hb (hml.trans hl.1.symm) hown (hts (Cond.methodLink RX0 108 Lib.Math.min.name) (List.mem_of_getElem? (i := 3) rfl)) (hts (Cond.static Lib.Math.min.name) (List.mem_of_getElem? (i := 4) rfl)) (hts (Cond.initialized "java/lang/Math") (List.mem_of_getElem? (i := 5) rfl)) (hts (Cond.code Lib.Math.min.name Lib.Math.min.code 2 (some .int)) (List.mem_of_getElem? (i := 6) rfl)) (Nat.le_of_ble_eq_true rfl) (Nat.le_of_ble_eq_true rfl) (Nat.le_of_ble_eq_true rfl) (Nat.le_of_ble_eq_true rfl) rfl dX0_leaveTowns_34 ?_
          refine lv_istore_n (lv' := [(2, .int (i_min (peo i / 3 + 1) (peo i))), (0, .ref h), (1, .int (nI i))]) hx hb dX0_leaveTowns_37 rfl hl (by decide) rfl (fun ls hl => ?_)
          refine lv_aload_n hx hb dX0_leaveTowns_38 rfl (lv_at hl 1 rfl) ?_
          refine va_get (D := D) (ci := 0) (v := .ref (ad 5)) (C := RX0) (T := TX0) (N := 15) hx hb hts (fun _ h9 => (List.mem_cons_of_mem _ (List.mem_append_right _ h9))) hown hK hP 0 rfl rfl 5 (by decide) (hts (Cond.fieldLink RX0 27 "FloodGrid$Plain" "people" "[I") (List.mem_of_getElem? (i := 2) rfl)) (fun _ h9 => h9) rfl dX0_leaveTowns_39 ?_
          refine lv_iload_n hx hb dX0_leaveTowns_42 rfl (lv_at hl 2 rfl) ?_
          refine lv_dup2_11 hx hb dX0_leaveTowns_43 rfl rfl ?_
          refine ct_iald (v := (peo i)) hx hb hK hP 6 0 rfl rfl i rfl (by omega) (by decide) (by rw [hg, q_mix_at]) dX0_leaveTowns_44 ?_
          refine lv_iload_n hx hb dX0_leaveTowns_45 rfl (lv_at hl 0 rfl) ?_
          refine lv_isub hx hb dX0_leaveTowns_46 ?_
          refine ct_iast (g := upd g i ((peo i) - (i_min (peo i / 3 + 1) (peo i)))) (ws1 := (pW h ad cI hei wat dam wea dra (upd g i ((peo i) - (i_min (peo i / 3 + 1) (peo i)))) rai hou bro drd b cre gai see fou)) hx hb hK hP hD hS 6 0 rfl rfl i rfl (by omega) (by decide) rfl rfl dX0_leaveTowns_47 (fun H locs hP hD hS => ?_)
          refine lv_aload_n hx hb dX0_leaveTowns_48 rfl (lv_at hl 1 rfl) ?_
          refine lv_dup hx hb dX0_leaveTowns_49 rfl ?_
          refine va_get (D := D) (ci := 0) (v := .int b) (C := RX0) (T := TX0) (N := 15) hx hb hts (fun _ h9 => (List.mem_cons_of_mem _ (List.mem_append_right _ h9))) hown hK hP 0 rfl rfl 10 (by decide) (hts (Cond.fieldLink RX0 67 "FloodGrid$Plain" "left" "I") (List.mem_of_getElem? (i := 7) rfl)) (fun _ h9 => h9) rfl dX0_leaveTowns_50 ?_
          refine lv_iload_n hx hb dX0_leaveTowns_53 rfl (lv_at hl 0 rfl) ?_
          refine lv_iadd hx hb dX0_leaveTowns_54 ?_
          refine va_put (D := D) (ci := 0) (v := .int (b + (i_min (peo i / 3 + 1) (peo i)))) (ty := .int) (C := RX0) (T := TX0) (N := 15) hx hb hts (fun _ h9 => (List.mem_cons_of_mem _ (List.mem_append_right _ h9))) tyX0 tyX0_ok nmX0 hown hK hP hD hS 0 rfl rfl 10 (by decide) (hts (Cond.fieldLink RX0 67 "FloodGrid$Plain" "left" "I") (List.mem_of_getElem? (i := 7) rfl)) (fun _ h9 => h9) rfl (by decide +kernel) rfl rfl (Nat.le_of_ble_eq_true rfl) dX0_leaveTowns_55 (fun H locs hP hD hS => ?_)
          have hP : va_P D vwCl (pW h ad cI hei wat dam wea dra (upd g i ((peo i) - (i_min (peo i / 3 + 1) (peo i)))) rai hou bro drd (b + (i_min (peo i / 3 + 1) (peo i))) cre gai see fou) H := hP
          have hD : va_D A (pW h ad cI hei wat dam wea dra (upd g i ((peo i) - (i_min (peo i / 3 + 1) (peo i)))) rai hou bro drd (b + (i_min (peo i / 3 + 1) (peo i))) cre gai see fou) := hD
          refine lv_iinc (v := (nI (i + 1))) (lv' := [(1, .int (nI (i + 1))), (2, .int (i_min (peo i / 3 + 1) (peo i))), (0, .ref h)]) hx hb dX0_leaveTowns_58 hl (k := 2) rfl (nI_1 i) (by decide) rfl (fun ls hl => ?_)
          have h3 : 3 ≤ wat i := Int32.not_lt.mp hc2
          refine lv_goto (tgt := 2) hx hb dX0_leaveTowns_61 (by decide) ?_
          exact ih (i + 1) (by omega) (upd g i (peo i - i_min (peo i / 3 + 1) (peo i))) (b + i_min (peo i / 3 + 1) (peo i)) H locs ls (by rw [hg]; exact q_mix_up (by simp only [q_peo]; rw [if_pos h3])) (by rw [hb2]; exact q_sum_up' _ _ _ (by simp only [q_lv]; rw [if_pos h3])) hP hD hS (lv_sub hl [2, 0] rfl)
  exact loop 64 0 (by omega) peo lef H locs ls (q_mix_0 _ _).symm (Int32.add_zero _).symm hP hD hS (lv_sub hl [1, 0] rfl)
abbrev rm_X0_wearDams : Room := { frames := 0, cells := 0, slots := 0, locals := 0 }
theorem upd_twice (f : Nat → Int32) (k : Nat) (x y : Int32) : upd (upd f k x) k y = upd f k y := by
  funext j
  unfold upd
  by_cases h1 : j = k
  · simp [h1]
  · simp [h1]
set_option maxHeartbeats 4000000 in
set_option maxRecDepth 100000 in
theorem c_X0_wear (l : Launch) (D : va_G) (cI : ClassId) (h : Nat) (ad : Nat → Nat) (hei wat dam wea dra peo rai : Nat → Int32) (hou bro drd lef : Int32) (cre gai see fou : Nat → Int32) : ct_v (S := Unit) l D yX0_wearDams wsX0_wearDams rm_X0_wearDams [.ref h] (pW h ad cI hei wat dam wea dra peo rai hou bro drd lef cre gai see fou) [(cI, .int)] (fun _ => True) (fun _ => (pW h ad cI hei wat (q_dam dam wat wea) (q_wea dam wat wea) dra peo rai hou (bro + q_sum (q_brk dam wat wea) 64) drd lef cre gai see fou)) := by
  refine ct_ofv (cc := cX0_wearDams) (maxL := 2) (by decide) rfl (Nat.le_of_ble_eq_true rfl) ?_
  intro p e s m args below meth c A Q hx hb hml hown hts hin hA hK H locs hP hD hS fin ls hl
  have hown : s.vm.findClass RX0 = some m.cls := hown
  have hl : lv_has ls 2 [(0, .ref h)] := hl
  refine lv_iconst (v := 0) hx hb dX0_wearDams_0 (by decide) ?_
  refine lv_istore_n (lv' := [(1, .int 0), (0, .ref h)]) hx hb dX0_wearDams_1 rfl hl (by decide) rfl (fun ls hl => ?_)
  have loop : ∀ (fu i : Nat), i + fu = 64 → ∀ (g : Nat → Int32) (v : Nat → Int32) (b : Int32) (H : Heap) (locs : List Loc) (ls : Array Slot), (g = q_mix i (q_dam dam wat wea) dam) → (v = q_mix i (q_wea dam wat wea) wea) → (b = bro + q_sum (q_brk dam wat wea) i) → va_P D vwCl (pW h ad cI hei wat g v dra peo rai hou b drd lef cre gai see fou) H → va_D A (pW h ad cI hei wat g v dra peo rai hou b drd lef cre gai see fou) → va_S A s.heap H locs → lv_has ls 2 [(0, .ref h), (1, .int (nI i))] → W p l e rm_X0_wearDams s m args below meth c H locs 0 0 Q (F0 m 2 ls []) := by
    intro fu
    induction fu with
    | zero =>
      intro i hi g v b H locs ls hg hv hb2 hP hD hS hl
      obtain rfl : 64 = i := by omega
      refine lv_iload_n hx hb dX0_wearDams_2 rfl (lv_at hl 1 rfl) ?_
      refine lv_bipush (v := 64) hx hb dX0_wearDams_3 (by decide) ?_
      refine lv_icmp_ge (tgt := 83) hx hb dX0_wearDams_5 (by decide) (fun hc => ?_) (fun hc => ?_)
      · skip
        subst hb2
        obtain ⟨hP, hD⟩ := ct_ext hP hD 3 rfl (q_dam dam wat wea) (fun j hj => by rw [hg]; exact q_mix_lt hj) (ws1 := (pW h ad cI hei wat (q_dam dam wat wea) v dra peo rai hou (bro + q_sum (q_brk dam wat wea) 64) drd lef cre gai see fou)) rfl
        obtain ⟨hP, hD⟩ := ct_ext hP hD 4 rfl (q_wea dam wat wea) (fun j hj => by rw [hv]; exact q_mix_lt hj) (ws1 := (pW h ad cI hei wat (q_dam dam wat wea) (q_wea dam wat wea) dra peo rai hou (bro + q_sum (q_brk dam wat wea) 64) drd lef cre gai see fou)) rfl
        exact fin () H locs 0 0 83 ls dX0_wearDams_83 trivial hP hD hS (Nat.le_of_ble_eq_true rfl) (Nat.le_of_ble_eq_true rfl)
      · skip
        exact absurd (show (64 : Int32) ≤ nI 64 by decide) hc
    | succ fu ih =>
      intro i hi g v b H locs ls hg hv hb2 hP hD hS hl
      have hlt : i < 64 := by omega
      refine lv_iload_n hx hb dX0_wearDams_2 rfl (lv_at hl 1 rfl) ?_
      refine lv_bipush (v := 64) hx hb dX0_wearDams_3 (by decide) ?_
      refine lv_icmp_ge (tgt := 83) hx hb dX0_wearDams_5 (by decide) (fun hc => ?_) (fun hc => ?_)
      · skip
        exact absurd hc (nI_ge (b := 64) hlt (by decide))
      · skip
        refine lv_aload_n hx hb dX0_wearDams_8 rfl (lv_at hl 0 rfl) ?_
        refine va_get (D := D) (ci := 0) (v := .ref (ad 2)) (C := RX0) (T := TX0) (N := 15) hx hb hts (fun _ h9 => (List.mem_cons_of_mem _ (List.mem_append_right _ h9))) hown hK hP 0 rfl rfl 2 (by decide) (hts (Cond.fieldLink RX0 18 "FloodGrid$Plain" "dam" "[I") (List.mem_of_getElem? (i := 1) rfl)) (fun _ h9 => h9) rfl dX0_wearDams_9 ?_
        refine lv_iload_n hx hb dX0_wearDams_12 rfl (lv_at hl 1 rfl) ?_
        refine ct_iald (v := (dam i)) hx hb hK hP 3 0 rfl rfl i rfl (by omega) (by decide) (by rw [hg, q_mix_at]) dX0_wearDams_13 ?_
        refine lv_if_le (tgt := 77) hx hb dX0_wearDams_14 (by decide) (fun hc2 => ?_) (fun hc2 => ?_)
        · skip
          refine lv_iinc (v := (nI (i + 1))) (lv' := [(1, .int (nI (i + 1))), (0, .ref h)]) hx hb dX0_wearDams_77 hl (k := 1) rfl (nI_1 i) (by decide) rfl (fun ls hl => ?_)
          have hn3 : ¬ (0 < dam i ∧ dam i ≤ wat i) := fun z => absurd z.1 (Int32.not_lt.mpr hc2)
          refine lv_goto (tgt := 2) hx hb dX0_wearDams_80 (by decide) ?_
          exact ih (i + 1) (by omega) g v b H locs ls (by rw [hg]; exact q_mix_same (by simp only [q_dam]; rw [if_neg (fun z => hn3 ⟨z.1, z.2.1⟩)])) (by rw [hv]; exact q_mix_same (by simp only [q_wea]; rw [if_neg hn3])) (by rw [hb2]; exact q_sum_no _ _ _ (by simp only [q_brk]; rw [if_neg (fun z => hn3 ⟨z.1, z.2.1⟩)])) hP hD hS (lv_sub hl [1, 0] rfl)
        · skip
          refine lv_aload_n hx hb dX0_wearDams_17 rfl (lv_at hl 0 rfl) ?_
          refine va_get (D := D) (ci := 0) (v := .ref (ad 1)) (C := RX0) (T := TX0) (N := 15) hx hb hts (fun _ h9 => (List.mem_cons_of_mem _ (List.mem_append_right _ h9))) hown hK hP 0 rfl rfl 1 (by decide) (hts (Cond.fieldLink RX0 15 "FloodGrid$Plain" "water" "[I") (List.mem_of_getElem? (i := 2) rfl)) (fun _ h9 => h9) rfl dX0_wearDams_18 ?_
          refine lv_iload_n hx hb dX0_wearDams_21 rfl (lv_at hl 1 rfl) ?_
          refine ct_iald (v := wat i) hx hb hK hP 2 0 rfl rfl i rfl (by omega) (by decide) rfl dX0_wearDams_22 ?_
          refine lv_aload_n hx hb dX0_wearDams_23 rfl (lv_at hl 0 rfl) ?_
          refine va_get (D := D) (ci := 0) (v := .ref (ad 2)) (C := RX0) (T := TX0) (N := 15) hx hb hts (fun _ h9 => (List.mem_cons_of_mem _ (List.mem_append_right _ h9))) hown hK hP 0 rfl rfl 2 (by decide) (hts (Cond.fieldLink RX0 18 "FloodGrid$Plain" "dam" "[I") (List.mem_of_getElem? (i := 1) rfl)) (fun _ h9 => h9) rfl dX0_wearDams_24 ?_
          refine lv_iload_n hx hb dX0_wearDams_27 rfl (lv_at hl 1 rfl) ?_
          refine ct_iald (v := (dam i)) hx hb hK hP 3 0 rfl rfl i rfl (by omega) (by decide) (by rw [hg, q_mix_at]) dX0_wearDams_28 ?_
          refine lv_icmp_lt (tgt := 77) hx hb dX0_wearDams_29 (by decide) (fun hc3 => ?_) (fun hc3 => ?_)
          · skip
            refine lv_iinc (v := (nI (i + 1))) (lv' := [(1, .int (nI (i + 1))), (0, .ref h)]) hx hb dX0_wearDams_77 hl (k := 1) rfl (nI_1 i) (by decide) rfl (fun ls hl => ?_)
            have hn3 : ¬ (0 < dam i ∧ dam i ≤ wat i) := fun z => absurd z.2 (Int32.not_le.mpr hc3)
            refine lv_goto (tgt := 2) hx hb dX0_wearDams_80 (by decide) ?_
            exact ih (i + 1) (by omega) g v b H locs ls (by rw [hg]; exact q_mix_same (by simp only [q_dam]; rw [if_neg (fun z => hn3 ⟨z.1, z.2.1⟩)])) (by rw [hv]; exact q_mix_same (by simp only [q_wea]; rw [if_neg hn3])) (by rw [hb2]; exact q_sum_no _ _ _ (by simp only [q_brk]; rw [if_neg (fun z => hn3 ⟨z.1, z.2.1⟩)])) hP hD hS (lv_sub hl [1, 0] rfl)
          · skip
            have h3 : 0 < dam i ∧ dam i ≤ wat i := ⟨Int32.not_le.mp hc2, Int32.not_lt.mp hc3⟩
            refine lv_aload_n hx hb dX0_wearDams_32 rfl (lv_at hl 0 rfl) ?_
            refine va_get (D := D) (ci := 0) (v := .ref (ad 3)) (C := RX0) (T := TX0) (N := 15) hx hb hts (fun _ h9 => (List.mem_cons_of_mem _ (List.mem_append_right _ h9))) hown hK hP 0 rfl rfl 3 (by decide) (hts (Cond.fieldLink RX0 21 "FloodGrid$Plain" "wear" "[I") (List.mem_of_getElem? (i := 3) rfl)) (fun _ h9 => h9) rfl dX0_wearDams_33 ?_
            refine lv_iload_n hx hb dX0_wearDams_36 rfl (lv_at hl 1 rfl) ?_
            refine lv_dup2_11 hx hb dX0_wearDams_37 rfl rfl ?_
            refine ct_iald (v := (wea i)) hx hb hK hP 4 0 rfl rfl i rfl (by omega) (by decide) (by rw [hv, q_mix_at]) dX0_wearDams_38 ?_
            refine lv_iconst (v := 1) hx hb dX0_wearDams_39 (by decide) ?_
            refine lv_iadd hx hb dX0_wearDams_40 ?_
            refine ct_iast (g := upd v i ((wea i) + 1)) (ws1 := (pW h ad cI hei wat g (upd v i ((wea i) + 1)) dra peo rai hou b drd lef cre gai see fou)) hx hb hK hP hD hS 4 0 rfl rfl i rfl (by omega) (by decide) rfl rfl dX0_wearDams_41 (fun H locs hP hD hS => ?_)
            refine lv_aload_n hx hb dX0_wearDams_42 rfl (lv_at hl 0 rfl) ?_
            refine va_get (D := D) (ci := 0) (v := .ref (ad 3)) (C := RX0) (T := TX0) (N := 15) hx hb hts (fun _ h9 => (List.mem_cons_of_mem _ (List.mem_append_right _ h9))) hown hK hP 0 rfl rfl 3 (by decide) (hts (Cond.fieldLink RX0 21 "FloodGrid$Plain" "wear" "[I") (List.mem_of_getElem? (i := 3) rfl)) (fun _ h9 => h9) rfl dX0_wearDams_43 ?_
            refine lv_iload_n hx hb dX0_wearDams_46 rfl (lv_at hl 1 rfl) ?_
            refine ct_iald (v := (wea i + 1)) hx hb hK hP 4 0 rfl rfl i rfl (by omega) (by decide) (pk_us) dX0_wearDams_47 ?_
            refine lv_bipush (v := 10) hx hb dX0_wearDams_48 (by decide) ?_
            refine lv_icmp_lt (tgt := 77) hx hb dX0_wearDams_50 (by decide) (fun hc4 => ?_) (fun hc4 => ?_)
            · skip
              refine lv_iinc (v := (nI (i + 1))) (lv' := [(1, .int (nI (i + 1))), (0, .ref h)]) hx hb dX0_wearDams_77 hl (k := 1) rfl (nI_1 i) (by decide) rfl (fun ls hl => ?_)
              have h10 : ¬ 10 ≤ wea i + 1 := Int32.not_le.mpr hc4
              refine lv_goto (tgt := 2) hx hb dX0_wearDams_80 (by decide) ?_
              exact ih (i + 1) (by omega) g (upd v i (wea i + 1)) b H locs ls (by rw [hg]; exact q_mix_same (by simp only [q_dam]; rw [if_neg (fun z => h10 z.2.2)])) (by rw [hv]; exact q_mix_up (by simp only [q_wea]; rw [if_pos h3, if_neg h10])) (by rw [hb2]; exact q_sum_no _ _ _ (by simp only [q_brk]; rw [if_neg (fun z => h10 z.2.2)])) hP hD hS (lv_sub hl [1, 0] rfl)
            · skip
              have h10 : 10 ≤ wea i + 1 := Int32.not_lt.mp hc4
              refine lv_aload_n hx hb dX0_wearDams_53 rfl (lv_at hl 0 rfl) ?_
              refine va_get (D := D) (ci := 0) (v := .ref (ad 2)) (C := RX0) (T := TX0) (N := 15) hx hb hts (fun _ h9 => (List.mem_cons_of_mem _ (List.mem_append_right _ h9))) hown hK hP 0 rfl rfl 2 (by decide) (hts (Cond.fieldLink RX0 18 "FloodGrid$Plain" "dam" "[I") (List.mem_of_getElem? (i := 1) rfl)) (fun _ h9 => h9) rfl dX0_wearDams_54 ?_
              refine lv_iload_n hx hb dX0_wearDams_57 rfl (lv_at hl 1 rfl) ?_
              refine lv_iconst (v := 0) hx hb dX0_wearDams_58 (by decide) ?_
              refine ct_iast (g := upd g i 0) (ws1 := (pW h ad cI hei wat (upd g i 0) (upd v i ((wea i) + 1)) dra peo rai hou b drd lef cre gai see fou)) hx hb hK hP hD hS 3 0 rfl rfl i rfl (by omega) (by decide) rfl rfl dX0_wearDams_59 (fun H locs hP hD hS => ?_)
              refine lv_aload_n hx hb dX0_wearDams_60 rfl (lv_at hl 0 rfl) ?_
              refine va_get (D := D) (ci := 0) (v := .ref (ad 3)) (C := RX0) (T := TX0) (N := 15) hx hb hts (fun _ h9 => (List.mem_cons_of_mem _ (List.mem_append_right _ h9))) hown hK hP 0 rfl rfl 3 (by decide) (hts (Cond.fieldLink RX0 21 "FloodGrid$Plain" "wear" "[I") (List.mem_of_getElem? (i := 3) rfl)) (fun _ h9 => h9) rfl dX0_wearDams_61 ?_
              refine lv_iload_n hx hb dX0_wearDams_64 rfl (lv_at hl 1 rfl) ?_
              refine lv_iconst (v := 0) hx hb dX0_wearDams_65 (by decide) ?_
              refine ct_iast (g := upd (upd v i ((wea i) + 1)) i 0) (ws1 := (pW h ad cI hei wat (upd g i 0) (upd (upd v i ((wea i) + 1)) i 0) dra peo rai hou b drd lef cre gai see fou)) hx hb hK hP hD hS 4 0 rfl rfl i rfl (by omega) (by decide) rfl rfl dX0_wearDams_66 (fun H locs hP hD hS => ?_)
              refine lv_aload_n hx hb dX0_wearDams_67 rfl (lv_at hl 0 rfl) ?_
              refine lv_dup hx hb dX0_wearDams_68 rfl ?_
              refine va_get (D := D) (ci := 0) (v := .int b) (C := RX0) (T := TX0) (N := 15) hx hb hts (fun _ h9 => (List.mem_cons_of_mem _ (List.mem_append_right _ h9))) hown hK hP 0 rfl rfl 8 (by decide) (hts (Cond.fieldLink RX0 61 "FloodGrid$Plain" "broken" "I") (List.mem_of_getElem? (i := 4) rfl)) (fun _ h9 => h9) rfl dX0_wearDams_69 ?_
              refine lv_iconst (v := 1) hx hb dX0_wearDams_72 (by decide) ?_
              refine lv_iadd hx hb dX0_wearDams_73 ?_
              refine va_put (D := D) (ci := 0) (v := .int (b + 1)) (ty := .int) (C := RX0) (T := TX0) (N := 15) hx hb hts (fun _ h9 => (List.mem_cons_of_mem _ (List.mem_append_right _ h9))) tyX0 tyX0_ok nmX0 hown hK hP hD hS 0 rfl rfl 8 (by decide) (hts (Cond.fieldLink RX0 61 "FloodGrid$Plain" "broken" "I") (List.mem_of_getElem? (i := 4) rfl)) (fun _ h9 => h9) rfl (by decide +kernel) rfl rfl (Nat.le_of_ble_eq_true rfl) dX0_wearDams_74 (fun H locs hP hD hS => ?_)
              have hP : va_P D vwCl (pW h ad cI hei wat (upd g i 0) (upd (upd v i ((wea i) + 1)) i 0) dra peo rai hou (b + 1) drd lef cre gai see fou) H := hP
              have hD : va_D A (pW h ad cI hei wat (upd g i 0) (upd (upd v i ((wea i) + 1)) i 0) dra peo rai hou (b + 1) drd lef cre gai see fou) := hD
              refine lv_iinc (v := (nI (i + 1))) (lv' := [(1, .int (nI (i + 1))), (0, .ref h)]) hx hb dX0_wearDams_77 hl (k := 1) rfl (nI_1 i) (by decide) rfl (fun ls hl => ?_)
              refine lv_goto (tgt := 2) hx hb dX0_wearDams_80 (by decide) ?_
              exact ih (i + 1) (by omega) (upd g i 0) (upd (upd v i (wea i + 1)) i 0) (b + 1) H locs ls (by rw [hg]; exact q_mix_up (by simp only [q_dam]; rw [if_pos ⟨h3.1, h3.2, h10⟩])) (by rw [hv, upd_twice]; exact q_mix_up (by simp only [q_wea]; rw [if_pos h3, if_pos h10])) (by rw [hb2]; exact q_sum_up' _ _ _ (by simp only [q_brk]; rw [if_pos ⟨h3.1, h3.2, h10⟩])) hP hD hS (lv_sub hl [1, 0] rfl)
  exact loop 64 0 (by omega) dam wea bro H locs ls (q_mix_0 _ _).symm (q_mix_0 _ _).symm (Int32.add_zero _).symm hP hD hS (lv_sub hl [1, 0] rfl)
end
section
abbrev rm_X0_letWaterRun : Room := { frames := 2, cells := 0, slots := 0, locals := 47 }
set_option maxHeartbeats 4000000 in
set_option maxRecDepth 100000 in
theorem c_X0_run (l : Launch) (D : va_G) (cI : ClassId) (h : Nat) (ad : Nat → Nat) (hei wat dam wea dra peo rai : Nat → Int32) (hou bro drd lef : Int32) (cre gai see fou : Nat → Int32) : ct_v (S := Unit) l D yX0_letWaterRun wsX0_letWaterRun rm_X0_letWaterRun [.ref h] (pW h ad cI hei wat dam wea dra peo rai hou bro drd lef cre gai see fou) [(cI, .int)] (fun _ => True) (fun _ => (pW h ad cI hei (q_w2 hei dam wat) dam wea dra peo rai hou bro drd lef (q_cre hei dam wat) (q_gain hei wat dam (q_cre hei dam wat) 64) see fou)) := by
  refine ct_ofv (cc := cX0_letWaterRun) (maxL := 2) (by decide) rfl (Nat.le_of_ble_eq_true rfl) ?_
  intro p e s m args below meth c A Q hx hb hml hown hts hin hA hK H locs hP hD hS fin ls hl
  have hown : s.vm.findClass RX0 = some m.cls := hown
  have hl : lv_has ls 2 [(0, .ref h)] := hl
  refine lv_iconst (v := 0) hx hb dX0_letWaterRun_0 (by decide) ?_
  refine lv_istore_n (lv' := [(1, .int 0), (0, .ref h)]) hx hb dX0_letWaterRun_1 rfl hl (by decide) rfl (fun ls hl => ?_)
  have loop : ∀ (fu i : Nat), i + fu = 64 → ∀ (g : Nat → Int32) (H : Heap) (locs : List Loc) (ls : Array Slot), (g = q_mix i (q_cre hei dam wat) cre) → va_P D vwCl (pW h ad cI hei wat dam wea dra peo rai hou bro drd lef g gai see fou) H → va_D A (pW h ad cI hei wat dam wea dra peo rai hou bro drd lef g gai see fou) → va_S A s.heap H locs → lv_has ls 2 [(0, .ref h), (1, .int (nI i))] → W p l e rm_X0_letWaterRun s m args below meth c H locs 0 0 Q (F0 m 2 ls []) := by
    intro fu
    induction fu with
    | zero =>
      intro i hi g H locs ls hg hP hD hS hl
      obtain rfl : 64 = i := by omega
      refine lv_iload_n hx hb dX0_letWaterRun_2 rfl (lv_at hl 1 rfl) ?_
      refine lv_bipush (v := 64) hx hb dX0_letWaterRun_3 (by decide) ?_
      refine lv_icmp_ge (tgt := 25) hx hb dX0_letWaterRun_5 (by decide) (fun hc => ?_) (fun hc => ?_)
      · skip
        obtain ⟨hP, hD⟩ := ct_ext hP hD 8 rfl (q_cre hei dam wat) (fun j hj => by rw [hg]; exact q_mix_lt hj) (ws1 := (pW h ad cI hei wat dam wea dra peo rai hou bro drd lef (q_cre hei dam wat) gai see fou)) rfl
        refine lv_aload_n hx hb dX0_letWaterRun_25 rfl (lv_at hl 0 rfl) ?_
        refine va_get (D := D) (ci := 0) (v := .ref (ad 12)) (C := RX0) (T := TX0) (N := 15) hx hb hts (fun _ h9 => (List.mem_cons_of_mem _ (List.mem_append_right _ h9))) hown hK hP 0 rfl rfl 12 (by decide) (hts (Cond.fieldLink RX0 36 "FloodGrid$Plain" "gained" "[I") (List.mem_of_getElem? (i := 2) rfl)) (fun _ h9 => h9) rfl dX0_letWaterRun_26 ?_
        refine lv_iconst (v := 0) hx hb dX0_letWaterRun_29 (by decide) ?_
        refine ct_Sv (As := [.ref (ad 12), .int 0]) (rest := []) (wr := [(h, .inr (0, [.ref (ad 0), .ref (ad 1), .ref (ad 2), .ref (ad 3), .ref (ad 4), .ref (ad 5), .ref (ad 6), .int hou, .int bro, .int drd, .int lef, .ref (ad 11), .ref (ad 12), .ref (ad 13), .ref (ad 14)])), ((ad 0), .inl (cI, 64, .inl hei)), ((ad 1), .inl (cI, 64, .inl wat)), ((ad 2), .inl (cI, 64, .inl dam)), ((ad 3), .inl (cI, 64, .inl wea)), ((ad 4), .inl (cI, 64, .inl dra)), ((ad 5), .inl (cI, 64, .inl peo)), ((ad 6), .inl (cI, 12, .inl rai)), ((ad 11), .inl (cI, 64, .inl (q_cre hei dam wat))), ((ad 13), .inl (cI, 64, .inl see)), ((ad 14), .inl (cI, 64, .inl fou))]) (W1 := fun u => (pW h ad cI hei wat dam wea dra peo rai hou bro drd lef (q_cre hei dam wat) (fun _ => 0) see fou)) (cells1 := 0) (slots1 := 0) ⟨hx, hb, hml, hown, hts⟩ (c_fill l D cI (ad 12) 64 (by decide) gai 0) (va_cwS 2 hts gX0_letWaterRun_J7_fill_53178 rfl rfl rfl (by decide +kernel) ⟨Nat.le_of_ble_eq_true rfl, Nat.le_of_ble_eq_true rfl⟩) hK hP hD hS hA [9] [0, 1, 2, 3, 4, 5, 6, 7, 8, 10, 11] ⟨rfl, rfl, rfl, rfl, rfl⟩ [0, 1, 2, 3, 4, 5, 6, 7, 8, 11, 9, 10] rfl (fun _ => rfl) [0] rfl rfl hl.1 rfl (Nat.le_of_ble_eq_true rfl) rfl rfl ⟨Nat.le_of_ble_eq_true rfl, Nat.le_of_ble_eq_true rfl⟩ dX0_letWaterRun_30 (fun u H locs hw hP hD hS => ?_)
        refine lv_iconst (v := 0) hx hb dX0_letWaterRun_33 (by decide) ?_
        refine lv_istore_n (lv' := [(1, .int 0), (0, .ref h)]) hx hb dX0_letWaterRun_34 rfl hl (by decide) rfl (fun ls hl => ?_)
        have loop2 : ∀ (fu i : Nat), i + fu = 64 → ∀ (ga : Nat → Int32) (H : Heap) (locs : List Loc) (ls : Array Slot), (ga = q_gain hei wat dam (q_cre hei dam wat) i) → va_P D vwCl (pW h ad cI hei wat dam wea dra peo rai hou bro drd lef (q_cre hei dam wat) ga see fou) H → va_D A (pW h ad cI hei wat dam wea dra peo rai hou bro drd lef (q_cre hei dam wat) ga see fou) → va_S A s.heap H locs → lv_has ls 2 [(0, .ref h), (1, .int (nI i))] → W p l e rm_X0_letWaterRun s m args below meth c H locs 0 0 Q (F0 m 35 ls []) := by
          intro fu
          induction fu with
          | zero =>
            intro i hi ga H locs ls hga hP hD hS hl
            obtain rfl : 64 = i := by omega
            refine lv_iload_n hx hb dX0_letWaterRun_35 rfl (lv_at hl 1 rfl) ?_
            refine lv_bipush (v := 64) hx hb dX0_letWaterRun_36 (by decide) ?_
            refine lv_icmp_ge (tgt := 72) hx hb dX0_letWaterRun_38 (by decide) (fun hc => ?_) (fun hc => ?_)
            · skip
              subst hga
              refine lv_iconst (v := 0) hx hb dX0_letWaterRun_72 (by decide) ?_
              refine lv_istore_n (lv' := [(1, .int 0), (0, .ref h)]) hx hb dX0_letWaterRun_73 rfl hl (by decide) rfl (fun ls hl => ?_)
              have loop3 : ∀ (fu i : Nat), i + fu = 64 → ∀ (g3 : Nat → Int32) (H : Heap) (locs : List Loc) (ls : Array Slot), (g3 = q_mix i (q_w2 hei dam wat) wat) → va_P D vwCl (pW h ad cI hei g3 dam wea dra peo rai hou bro drd lef (q_cre hei dam wat) (q_gain hei wat dam (q_cre hei dam wat) 64) see fou) H → va_D A (pW h ad cI hei g3 dam wea dra peo rai hou bro drd lef (q_cre hei dam wat) (q_gain hei wat dam (q_cre hei dam wat) 64) see fou) → va_S A s.heap H locs → lv_has ls 2 [(0, .ref h), (1, .int (nI i))] → W p l e rm_X0_letWaterRun s m args below meth c H locs 0 0 Q (F0 m 74 ls []) := by
                intro fu
                induction fu with
                | zero =>
                  intro i hi g3 H locs ls hg3 hP hD hS hl
                  obtain rfl : 64 = i := by omega
                  refine lv_iload_n hx hb dX0_letWaterRun_74 rfl (lv_at hl 1 rfl) ?_
                  refine lv_bipush (v := 64) hx hb dX0_letWaterRun_75 (by decide) ?_
                  refine lv_icmp_ge (tgt := 101) hx hb dX0_letWaterRun_77 (by decide) (fun hc => ?_) (fun hc => ?_)
                  · skip
                    obtain ⟨hP, hD⟩ := ct_ext hP hD 2 rfl (q_w2 hei dam wat) (fun j hj => by rw [hg3]; exact q_mix_lt hj) (ws1 := (pW h ad cI hei (q_w2 hei dam wat) dam wea dra peo rai hou bro drd lef (q_cre hei dam wat) (q_gain hei wat dam (q_cre hei dam wat) 64) see fou)) rfl
                    exact fin () H locs 0 0 101 ls dX0_letWaterRun_101 trivial hP hD hS (Nat.le_of_ble_eq_true rfl) (Nat.le_of_ble_eq_true rfl)
                  · skip
                    exact absurd (show (64 : Int32) ≤ nI 64 by decide) hc
                | succ fu ih =>
                  intro i hi g3 H locs ls hg3 hP hD hS hl
                  have hlt : i < 64 := by omega
                  refine lv_iload_n hx hb dX0_letWaterRun_74 rfl (lv_at hl 1 rfl) ?_
                  refine lv_bipush (v := 64) hx hb dX0_letWaterRun_75 (by decide) ?_
                  refine lv_icmp_ge (tgt := 101) hx hb dX0_letWaterRun_77 (by decide) (fun hc => ?_) (fun hc => ?_)
                  · skip
                    exact absurd hc (nI_ge (b := 64) hlt (by decide))
                  · skip
                    refine lv_aload_n hx hb dX0_letWaterRun_80 rfl (lv_at hl 0 rfl) ?_
                    refine va_get (D := D) (ci := 0) (v := .ref (ad 1)) (C := RX0) (T := TX0) (N := 15) hx hb hts (fun _ h9 => (List.mem_cons_of_mem _ (List.mem_append_right _ h9))) hown hK hP 0 rfl rfl 1 (by decide) (hts (Cond.fieldLink RX0 15 "FloodGrid$Plain" "water" "[I") (List.mem_of_getElem? (i := 3) rfl)) (fun _ h9 => h9) rfl dX0_letWaterRun_81 ?_
                    refine lv_iload_n hx hb dX0_letWaterRun_84 rfl (lv_at hl 1 rfl) ?_
                    refine lv_dup2_11 hx hb dX0_letWaterRun_85 rfl rfl ?_
                    refine ct_iald (v := (wat i)) hx hb hK hP 2 0 rfl rfl i rfl (by omega) (by decide) (by rw [hg3, q_mix_at]) dX0_letWaterRun_86 ?_
                    refine lv_aload_n hx hb dX0_letWaterRun_87 rfl (lv_at hl 0 rfl) ?_
                    refine va_get (D := D) (ci := 0) (v := .ref (ad 12)) (C := RX0) (T := TX0) (N := 15) hx hb hts (fun _ h9 => (List.mem_cons_of_mem _ (List.mem_append_right _ h9))) hown hK hP 0 rfl rfl 12 (by decide) (hts (Cond.fieldLink RX0 36 "FloodGrid$Plain" "gained" "[I") (List.mem_of_getElem? (i := 2) rfl)) (fun _ h9 => h9) rfl dX0_letWaterRun_88 ?_
                    refine lv_iload_n hx hb dX0_letWaterRun_91 rfl (lv_at hl 1 rfl) ?_
                    refine ct_iald (v := (q_gain hei wat dam (q_cre hei dam wat) 64) i) hx hb hK hP 9 0 rfl rfl i rfl (by omega) (by decide) rfl dX0_letWaterRun_92 ?_
                    refine lv_iadd hx hb dX0_letWaterRun_93 ?_
                    refine ct_iast (g := upd g3 i ((wat i) + ((q_gain hei wat dam (q_cre hei dam wat) 64) i))) (ws1 := (pW h ad cI hei (upd g3 i ((wat i) + ((q_gain hei wat dam (q_cre hei dam wat) 64) i))) dam wea dra peo rai hou bro drd lef (q_cre hei dam wat) (q_gain hei wat dam (q_cre hei dam wat) 64) see fou)) hx hb hK hP hD hS 2 0 rfl rfl i rfl (by omega) (by decide) rfl rfl dX0_letWaterRun_94 (fun H locs hP hD hS => ?_)
                    refine lv_iinc (v := (nI (i + 1))) (lv' := [(1, .int (nI (i + 1))), (0, .ref h)]) hx hb dX0_letWaterRun_95 hl (k := 1) rfl (nI_1 i) (by decide) rfl (fun ls hl => ?_)
                    refine lv_goto (tgt := 74) hx hb dX0_letWaterRun_98 (by decide) ?_
                    exact ih (i + 1) (by omega) (upd g3 i (wat i + (q_gain hei wat dam (q_cre hei dam wat) 64) i)) H locs ls (by rw [hg3]; exact q_mix_up rfl) hP hD hS (lv_sub hl [1, 0] rfl)
              exact loop3 64 0 (by omega) wat H locs ls (q_mix_0 _ _).symm hP hD hS (lv_sub hl [1, 0] rfl)
            · skip
              exact absurd (show (64 : Int32) ≤ nI 64 by decide) hc
          | succ fu ih =>
            intro i hi ga H locs ls hga hP hD hS hl
            have hlt : i < 64 := by omega
            refine lv_iload_n hx hb dX0_letWaterRun_35 rfl (lv_at hl 1 rfl) ?_
            refine lv_bipush (v := 64) hx hb dX0_letWaterRun_36 (by decide) ?_
            refine lv_icmp_ge (tgt := 72) hx hb dX0_letWaterRun_38 (by decide) (fun hc => ?_) (fun hc => ?_)
            · skip
              exact absurd hc (nI_ge (b := 64) hlt (by decide))
            · skip
              refine lv_aload_n hx hb dX0_letWaterRun_41 rfl (lv_at hl 0 rfl) ?_
              refine va_get (D := D) (ci := 0) (v := .ref (ad 1)) (C := RX0) (T := TX0) (N := 15) hx hb hts (fun _ h9 => (List.mem_cons_of_mem _ (List.mem_append_right _ h9))) hown hK hP 0 rfl rfl 1 (by decide) (hts (Cond.fieldLink RX0 15 "FloodGrid$Plain" "water" "[I") (List.mem_of_getElem? (i := 3) rfl)) (fun _ h9 => h9) rfl dX0_letWaterRun_42 ?_
              refine lv_iload_n hx hb dX0_letWaterRun_45 rfl (lv_at hl 1 rfl) ?_
              refine ct_iald (v := wat i) hx hb hK hP 2 0 rfl rfl i rfl (by omega) (by decide) rfl dX0_letWaterRun_46 ?_
              refine lv_aload_n hx hb dX0_letWaterRun_47 rfl (lv_at hl 0 rfl) ?_
              refine va_get (D := D) (ci := 0) (v := .ref (ad 2)) (C := RX0) (T := TX0) (N := 15) hx hb hts (fun _ h9 => (List.mem_cons_of_mem _ (List.mem_append_right _ h9))) hown hK hP 0 rfl rfl 2 (by decide) (hts (Cond.fieldLink RX0 18 "FloodGrid$Plain" "dam" "[I") (List.mem_of_getElem? (i := 4) rfl)) (fun _ h9 => h9) rfl dX0_letWaterRun_48 ?_
              refine lv_iload_n hx hb dX0_letWaterRun_51 rfl (lv_at hl 1 rfl) ?_
              refine ct_iald (v := dam i) hx hb hK hP 3 0 rfl rfl i rfl (by omega) (by decide) rfl dX0_letWaterRun_52 ?_
              refine lv_icmp_le (tgt := 66) hx hb dX0_letWaterRun_53 (by decide) (fun hc2 => ?_) (fun hc2 => ?_)
              · skip
                refine lv_iinc (v := (nI (i + 1))) (lv' := [(1, .int (nI (i + 1))), (0, .ref h)]) hx hb dX0_letWaterRun_66 hl (k := 1) rfl (nI_1 i) (by decide) rfl (fun ls hl => ?_)
                refine lv_goto (tgt := 35) hx hb dX0_letWaterRun_69 (by decide) ?_
                exact ih (i + 1) (by omega) ga H locs ls (by rw [hga]; simp only [q_gain]; rw [if_neg (Int32.not_lt.mpr hc2)]) hP hD hS (lv_sub hl [1, 0] rfl)
              · skip
                refine lv_aload_n hx hb dX0_letWaterRun_56 rfl (lv_at hl 0 rfl) ?_
                refine lv_iload_n hx hb dX0_letWaterRun_57 rfl (lv_at hl 1 rfl) ?_
                refine lv_aload_n hx hb dX0_letWaterRun_58 rfl (lv_at hl 0 rfl) ?_
                refine lv_iload_n hx hb dX0_letWaterRun_59 rfl (lv_at hl 1 rfl) ?_
                refine ct_Vi (As := [.int (nI i)]) (rest := [.int (nI i), .ref h]) (wr := []) (W1 := fun u => (pW h ad cI hei wat dam wea dra peo rai hou bro drd lef (q_cre hei dam wat) ga see fou)) (cells1 := 0) (slots1 := 0) ⟨hx, hb, hml, hown, hts⟩ (c_X0_lowest l D cI h ad hei wat dam wea dra peo rai hou bro drd lef (q_cre hei dam wat) ga see fou i hlt) (cwV 1 hts gX0_letWaterRun_X0_lowestNeighbour rfl rfl rfl (by decide +kernel) ⟨Nat.le_of_ble_eq_true rfl, Nat.le_of_ble_eq_true rfl⟩) hK hP hD hS hA [0, 1, 2, 3, 4, 5, 6, 7, 8, 9, 10, 11] [] ⟨rfl, rfl, rfl, rfl, rfl⟩ [0, 1, 2, 3, 4, 5, 6, 7, 8, 9, 10, 11] rfl (fun _ => rfl) [0] rfl (va_recv hK hP (ci := 0) (q0 := 0) rfl rfl) rfl hl.1 rfl (Nat.le_of_ble_eq_true rfl) rfl rfl ⟨Nat.le_of_ble_eq_true rfl, Nat.le_of_ble_eq_true rfl⟩ dX0_letWaterRun_60 (fun r u H locs hw hP hD hS => ?_)
                subst hw
                refine ct_Vv (As := [.int (nI i), .int (q_v (q_low (q_cre hei dam wat) i 4))]) (rest := []) (wr := []) (W1 := fun u => (pW h ad cI hei wat dam wea dra peo rai hou bro drd lef (q_cre hei dam wat) (q_give hei wat dam (q_cre hei dam wat) i (q_low (q_cre hei dam wat) i 4) ga) see fou)) (cells1 := 0) (slots1 := 0) ⟨hx, hb, hml, hown, hts⟩ (c_X0_give l D cI h ad hei wat dam wea dra peo rai hou bro drd lef (q_cre hei dam wat) ga see fou i hlt (q_low (q_cre hei dam wat) i 4) (fun j hj => q_low_lt hlt hj)) (cwV 2 hts gX0_letWaterRun_X0_give rfl rfl rfl (by decide +kernel) ⟨Nat.le_of_ble_eq_true rfl, Nat.le_of_ble_eq_true rfl⟩) hK hP hD hS hA [0, 1, 2, 3, 4, 5, 6, 7, 8, 9, 10, 11] [] ⟨rfl, rfl, rfl, rfl, rfl⟩ [0, 1, 2, 3, 4, 5, 6, 7, 8, 9, 10, 11] rfl (fun _ => rfl) [0] rfl (va_recv hK hP (ci := 0) (q0 := 0) rfl rfl) rfl hl.1 rfl (Nat.le_of_ble_eq_true rfl) rfl rfl ⟨Nat.le_of_ble_eq_true rfl, Nat.le_of_ble_eq_true rfl⟩ dX0_letWaterRun_63 (fun u H locs hw hP hD hS => ?_)
                refine lv_iinc (v := (nI (i + 1))) (lv' := [(1, .int (nI (i + 1))), (0, .ref h)]) hx hb dX0_letWaterRun_66 hl (k := 1) rfl (nI_1 i) (by decide) rfl (fun ls hl => ?_)
                refine lv_goto (tgt := 35) hx hb dX0_letWaterRun_69 (by decide) ?_
                exact ih (i + 1) (by omega) (q_give hei wat dam (q_cre hei dam wat) i (q_low (q_cre hei dam wat) i 4) ga) H locs ls (by rw [hga]; simp only [q_gain]; rw [if_pos (Int32.not_le.mp hc2)]) hP hD hS (lv_sub hl [1, 0] rfl)
        exact loop2 64 0 (by omega) (fun _ => 0) H locs ls rfl hP hD hS (lv_sub hl [1, 0] rfl)
      · skip
        exact absurd (show (64 : Int32) ≤ nI 64 by decide) hc
    | succ fu ih =>
      intro i hi g H locs ls hg hP hD hS hl
      have hlt : i < 64 := by omega
      refine lv_iload_n hx hb dX0_letWaterRun_2 rfl (lv_at hl 1 rfl) ?_
      refine lv_bipush (v := 64) hx hb dX0_letWaterRun_3 (by decide) ?_
      refine lv_icmp_ge (tgt := 25) hx hb dX0_letWaterRun_5 (by decide) (fun hc => ?_) (fun hc => ?_)
      · skip
        exact absurd hc (nI_ge (b := 64) hlt (by decide))
      · skip
        refine lv_aload_n hx hb dX0_letWaterRun_8 rfl (lv_at hl 0 rfl) ?_
        refine va_get (D := D) (ci := 0) (v := .ref (ad 11)) (C := RX0) (T := TX0) (N := 15) hx hb hts (fun _ h9 => (List.mem_cons_of_mem _ (List.mem_append_right _ h9))) hown hK hP 0 rfl rfl 11 (by decide) (hts (Cond.fieldLink RX0 33 "FloodGrid$Plain" "crests" "[I") (List.mem_of_getElem? (i := 1) rfl)) (fun _ h9 => h9) rfl dX0_letWaterRun_9 ?_
        refine lv_iload_n hx hb dX0_letWaterRun_12 rfl (lv_at hl 1 rfl) ?_
        refine lv_aload_n hx hb dX0_letWaterRun_13 rfl (lv_at hl 0 rfl) ?_
        refine lv_iload_n hx hb dX0_letWaterRun_14 rfl (lv_at hl 1 rfl) ?_
        refine ct_Vi (As := [.int (nI i)]) (rest := [.int (nI i), .ref (ad 11)]) (wr := []) (W1 := fun u => (pW h ad cI hei wat dam wea dra peo rai hou bro drd lef g gai see fou)) (cells1 := 0) (slots1 := 0) ⟨hx, hb, hml, hown, hts⟩ (c_X0_crestOf l D cI h ad hei wat dam wea dra peo rai hou bro drd lef g gai see fou i hlt) (cwV 1 hts gX0_letWaterRun_X0_crestOf rfl rfl rfl (by decide +kernel) ⟨Nat.le_of_ble_eq_true rfl, Nat.le_of_ble_eq_true rfl⟩) hK hP hD hS hA [0, 1, 2, 3, 4, 5, 6, 7, 8, 9, 10, 11] [] ⟨rfl, rfl, rfl, rfl, rfl⟩ [0, 1, 2, 3, 4, 5, 6, 7, 8, 9, 10, 11] rfl (fun _ => rfl) [0] rfl (va_recv hK hP (ci := 0) (q0 := 0) rfl rfl) rfl hl.1 rfl (Nat.le_of_ble_eq_true rfl) rfl rfl ⟨Nat.le_of_ble_eq_true rfl, Nat.le_of_ble_eq_true rfl⟩ dX0_letWaterRun_15 (fun r u H locs hw hP hD hS => ?_)
        subst hw
        refine ct_iast (g := upd g i ((q_cre hei dam wat) i)) (ws1 := (pW h ad cI hei wat dam wea dra peo rai hou bro drd lef (upd g i ((q_cre hei dam wat) i)) gai see fou)) hx hb hK hP hD hS 8 0 rfl rfl i rfl (by omega) (by decide) rfl rfl dX0_letWaterRun_18 (fun H locs hP hD hS => ?_)
        refine lv_iinc (v := (nI (i + 1))) (lv' := [(1, .int (nI (i + 1))), (0, .ref h)]) hx hb dX0_letWaterRun_19 hl (k := 1) rfl (nI_1 i) (by decide) rfl (fun ls hl => ?_)
        refine lv_goto (tgt := 2) hx hb dX0_letWaterRun_22 (by decide) ?_
        exact ih (i + 1) (by omega) (upd g i ((q_cre hei dam wat) i)) H locs ls (by rw [hg]; exact q_mix_up rfl) hP hD hS (lv_sub hl [1, 0] rfl)
  exact loop 64 0 (by omega) cre H locs ls (q_mix_0 _ _).symm hP hD hS (lv_sub hl [1, 0] rfl)
abbrev rm_X0_goOneHour : Room := { frames := 3, cells := 0, slots := 0, locals := 68 }
set_option maxHeartbeats 4000000 in
set_option maxRecDepth 100000 in
theorem c_X0_hour (l : Launch) (D : va_G) (cI : ClassId) (h : Nat) (ad : Nat → Nat) (hei dra rai : Nat → Int32) (σ : Ms) (cre gai see fou : Nat → Int32) (ht : m_t σ < 2 ^ 30) : ct_v (S := (Nat → Int32) × (Nat → Int32)) l D yX0_goOneHour wsX0_goOneHour rm_X0_goOneHour [.ref h] (pM h ad cI hei dra rai σ cre gai see fou) [(cI, .int)] (fun _ => True) (fun u => (pM h ad cI hei dra rai (q_hour hei dra rai σ) u.1 u.2 see fou)) := by
  refine ct_ofv (cc := cX0_goOneHour) (maxL := 1) (by decide) rfl (Nat.le_of_ble_eq_true rfl) ?_
  intro p e s m args below meth c A Q hx hb hml hown hts hin hA hK H locs hP hD hS fin ls hl
  have hown : s.vm.findClass RX0 = some m.cls := hown
  have hl : lv_has ls 1 [(0, .ref h)] := hl
  refine lv_aload_n hx hb dX0_goOneHour_0 rfl (lv_at hl 0 rfl) ?_
  refine ct_Vv (As := []) (rest := []) (wr := []) (W1 := fun u => (pW h ad cI hei (q_w1 rai (m_t σ) (m_wat σ)) (m_dam σ) (m_wea σ) dra (m_peo σ) rai (nI (m_t σ)) (m_bro σ) (m_drd σ) (m_lef σ) cre gai see fou)) (cells1 := 0) (slots1 := 0) ⟨hx, hb, hml, hown, hts⟩ (c_X0_rain l D cI h ad hei (m_wat σ) (m_dam σ) (m_wea σ) dra (m_peo σ) rai (m_bro σ) (m_drd σ) (m_lef σ) cre gai see fou (m_t σ) (by omega)) (cwV 0 hts gX0_goOneHour_X0_letRainFall rfl rfl rfl (by decide +kernel) ⟨Nat.le_of_ble_eq_true rfl, Nat.le_of_ble_eq_true rfl⟩) hK hP hD hS hA [0, 1, 2, 3, 4, 5, 6, 7, 8, 9, 10, 11] [] ⟨rfl, rfl, rfl, rfl, rfl⟩ [0, 1, 2, 3, 4, 5, 6, 7, 8, 9, 10, 11] rfl (fun _ => rfl) [0] rfl (va_recv hK hP (ci := 0) (q0 := 0) rfl rfl) rfl hl.1 rfl (Nat.le_of_ble_eq_true rfl) rfl rfl ⟨Nat.le_of_ble_eq_true rfl, Nat.le_of_ble_eq_true rfl⟩ dX0_goOneHour_1 (fun u H locs hw hP hD hS => ?_)
  refine lv_aload_n hx hb dX0_goOneHour_4 rfl (lv_at hl 0 rfl) ?_
  refine ct_Vv (As := []) (rest := []) (wr := []) (W1 := fun u => (pW h ad cI hei (q_w2 hei (m_dam σ) (q_w1 rai (m_t σ) (m_wat σ))) (m_dam σ) (m_wea σ) dra (m_peo σ) rai (nI (m_t σ)) (m_bro σ) (m_drd σ) (m_lef σ) (q_cre hei (m_dam σ) (q_w1 rai (m_t σ) (m_wat σ))) (q_gain hei (q_w1 rai (m_t σ) (m_wat σ)) (m_dam σ) (q_cre hei (m_dam σ) (q_w1 rai (m_t σ) (m_wat σ))) 64) see fou)) (cells1 := 0) (slots1 := 0) ⟨hx, hb, hml, hown, hts⟩ (c_X0_run l D cI h ad hei (q_w1 rai (m_t σ) (m_wat σ)) (m_dam σ) (m_wea σ) dra (m_peo σ) rai (nI (m_t σ)) (m_bro σ) (m_drd σ) (m_lef σ) cre gai see fou) (cwV 0 hts gX0_goOneHour_X0_letWaterRun rfl rfl rfl (by decide +kernel) ⟨Nat.le_of_ble_eq_true rfl, Nat.le_of_ble_eq_true rfl⟩) hK hP hD hS hA [0, 1, 2, 3, 4, 5, 6, 7, 8, 9, 10, 11] [] ⟨rfl, rfl, rfl, rfl, rfl⟩ [0, 1, 2, 3, 4, 5, 6, 7, 8, 9, 10, 11] rfl (fun _ => rfl) [0] rfl (va_recv hK hP (ci := 0) (q0 := 0) rfl rfl) rfl hl.1 rfl (Nat.le_of_ble_eq_true rfl) rfl rfl ⟨Nat.le_of_ble_eq_true rfl, Nat.le_of_ble_eq_true rfl⟩ dX0_goOneHour_5 (fun u H locs hw hP hD hS => ?_)
  refine lv_aload_n hx hb dX0_goOneHour_8 rfl (lv_at hl 0 rfl) ?_
  refine ct_Vv (As := []) (rest := []) (wr := []) (W1 := fun u => (pW h ad cI hei (q_w2 hei (m_dam σ) (q_w1 rai (m_t σ) (m_wat σ))) (q_dam (m_dam σ) (q_w2 hei (m_dam σ) (q_w1 rai (m_t σ) (m_wat σ))) (m_wea σ)) (q_wea (m_dam σ) (q_w2 hei (m_dam σ) (q_w1 rai (m_t σ) (m_wat σ))) (m_wea σ)) dra (m_peo σ) rai (nI (m_t σ)) (m_bro σ + q_sum (q_brk (m_dam σ) (q_w2 hei (m_dam σ) (q_w1 rai (m_t σ) (m_wat σ))) (m_wea σ)) 64) (m_drd σ) (m_lef σ) (q_cre hei (m_dam σ) (q_w1 rai (m_t σ) (m_wat σ))) (q_gain hei (q_w1 rai (m_t σ) (m_wat σ)) (m_dam σ) (q_cre hei (m_dam σ) (q_w1 rai (m_t σ) (m_wat σ))) 64) see fou)) (cells1 := 0) (slots1 := 0) ⟨hx, hb, hml, hown, hts⟩ (c_X0_wear l D cI h ad hei (q_w2 hei (m_dam σ) (q_w1 rai (m_t σ) (m_wat σ))) (m_dam σ) (m_wea σ) dra (m_peo σ) rai (nI (m_t σ)) (m_bro σ) (m_drd σ) (m_lef σ) (q_cre hei (m_dam σ) (q_w1 rai (m_t σ) (m_wat σ))) (q_gain hei (q_w1 rai (m_t σ) (m_wat σ)) (m_dam σ) (q_cre hei (m_dam σ) (q_w1 rai (m_t σ) (m_wat σ))) 64) see fou) (cwV 0 hts gX0_goOneHour_X0_wearDams rfl rfl rfl (by decide +kernel) ⟨Nat.le_of_ble_eq_true rfl, Nat.le_of_ble_eq_true rfl⟩) hK hP hD hS hA [0, 1, 2, 3, 4, 5, 6, 7, 8, 9, 10, 11] [] ⟨rfl, rfl, rfl, rfl, rfl⟩ [0, 1, 2, 3, 4, 5, 6, 7, 8, 9, 10, 11] rfl (fun _ => rfl) [0] rfl (va_recv hK hP (ci := 0) (q0 := 0) rfl rfl) rfl hl.1 rfl (Nat.le_of_ble_eq_true rfl) rfl rfl ⟨Nat.le_of_ble_eq_true rfl, Nat.le_of_ble_eq_true rfl⟩ dX0_goOneHour_9 (fun u H locs hw hP hD hS => ?_)
  refine lv_aload_n hx hb dX0_goOneHour_12 rfl (lv_at hl 0 rfl) ?_
  refine ct_Vv (As := []) (rest := []) (wr := []) (W1 := fun u => (pW h ad cI hei (q_w3 dra (q_w2 hei (m_dam σ) (q_w1 rai (m_t σ) (m_wat σ)))) (q_dam (m_dam σ) (q_w2 hei (m_dam σ) (q_w1 rai (m_t σ) (m_wat σ))) (m_wea σ)) (q_wea (m_dam σ) (q_w2 hei (m_dam σ) (q_w1 rai (m_t σ) (m_wat σ))) (m_wea σ)) dra (m_peo σ) rai (nI (m_t σ)) (m_bro σ + q_sum (q_brk (m_dam σ) (q_w2 hei (m_dam σ) (q_w1 rai (m_t σ) (m_wat σ))) (m_wea σ)) 64) (m_drd σ + q_sum (q_tak dra (q_w2 hei (m_dam σ) (q_w1 rai (m_t σ) (m_wat σ)))) 64) (m_lef σ) (q_cre hei (m_dam σ) (q_w1 rai (m_t σ) (m_wat σ))) (q_gain hei (q_w1 rai (m_t σ) (m_wat σ)) (m_dam σ) (q_cre hei (m_dam σ) (q_w1 rai (m_t σ) (m_wat σ))) 64) see fou)) (cells1 := 0) (slots1 := 0) ⟨hx, hb, hml, hown, hts⟩ (c_X0_drain l D cI h ad hei (q_w2 hei (m_dam σ) (q_w1 rai (m_t σ) (m_wat σ))) (q_dam (m_dam σ) (q_w2 hei (m_dam σ) (q_w1 rai (m_t σ) (m_wat σ))) (m_wea σ)) (q_wea (m_dam σ) (q_w2 hei (m_dam σ) (q_w1 rai (m_t σ) (m_wat σ))) (m_wea σ)) dra (m_peo σ) rai (nI (m_t σ)) (m_bro σ + q_sum (q_brk (m_dam σ) (q_w2 hei (m_dam σ) (q_w1 rai (m_t σ) (m_wat σ))) (m_wea σ)) 64) (m_drd σ) (m_lef σ) (q_cre hei (m_dam σ) (q_w1 rai (m_t σ) (m_wat σ))) (q_gain hei (q_w1 rai (m_t σ) (m_wat σ)) (m_dam σ) (q_cre hei (m_dam σ) (q_w1 rai (m_t σ) (m_wat σ))) 64) see fou) (cwV 0 hts gX0_goOneHour_X0_drainCells rfl rfl rfl (by decide +kernel) ⟨Nat.le_of_ble_eq_true rfl, Nat.le_of_ble_eq_true rfl⟩) hK hP hD hS hA [0, 1, 2, 3, 4, 5, 6, 7, 8, 9, 10, 11] [] ⟨rfl, rfl, rfl, rfl, rfl⟩ [0, 1, 2, 3, 4, 5, 6, 7, 8, 9, 10, 11] rfl (fun _ => rfl) [0] rfl (va_recv hK hP (ci := 0) (q0 := 0) rfl rfl) rfl hl.1 rfl (Nat.le_of_ble_eq_true rfl) rfl rfl ⟨Nat.le_of_ble_eq_true rfl, Nat.le_of_ble_eq_true rfl⟩ dX0_goOneHour_13 (fun u H locs hw hP hD hS => ?_)
  refine lv_aload_n hx hb dX0_goOneHour_16 rfl (lv_at hl 0 rfl) ?_
  refine ct_Vv (As := []) (rest := []) (wr := []) (W1 := fun u => (pW h ad cI hei (q_w3 dra (q_w2 hei (m_dam σ) (q_w1 rai (m_t σ) (m_wat σ)))) (q_dam (m_dam σ) (q_w2 hei (m_dam σ) (q_w1 rai (m_t σ) (m_wat σ))) (m_wea σ)) (q_wea (m_dam σ) (q_w2 hei (m_dam σ) (q_w1 rai (m_t σ) (m_wat σ))) (m_wea σ)) dra (q_peo (q_w3 dra (q_w2 hei (m_dam σ) (q_w1 rai (m_t σ) (m_wat σ)))) (m_peo σ)) rai (nI (m_t σ)) (m_bro σ + q_sum (q_brk (m_dam σ) (q_w2 hei (m_dam σ) (q_w1 rai (m_t σ) (m_wat σ))) (m_wea σ)) 64) (m_drd σ + q_sum (q_tak dra (q_w2 hei (m_dam σ) (q_w1 rai (m_t σ) (m_wat σ)))) 64) (m_lef σ + q_sum (q_lv (q_w3 dra (q_w2 hei (m_dam σ) (q_w1 rai (m_t σ) (m_wat σ)))) (m_peo σ)) 64) (q_cre hei (m_dam σ) (q_w1 rai (m_t σ) (m_wat σ))) (q_gain hei (q_w1 rai (m_t σ) (m_wat σ)) (m_dam σ) (q_cre hei (m_dam σ) (q_w1 rai (m_t σ) (m_wat σ))) 64) see fou)) (cells1 := 0) (slots1 := 0) ⟨hx, hb, hml, hown, hts⟩ (c_X0_leave l D cI h ad hei (q_w3 dra (q_w2 hei (m_dam σ) (q_w1 rai (m_t σ) (m_wat σ)))) (q_dam (m_dam σ) (q_w2 hei (m_dam σ) (q_w1 rai (m_t σ) (m_wat σ))) (m_wea σ)) (q_wea (m_dam σ) (q_w2 hei (m_dam σ) (q_w1 rai (m_t σ) (m_wat σ))) (m_wea σ)) dra (m_peo σ) rai (nI (m_t σ)) (m_bro σ + q_sum (q_brk (m_dam σ) (q_w2 hei (m_dam σ) (q_w1 rai (m_t σ) (m_wat σ))) (m_wea σ)) 64) (m_drd σ + q_sum (q_tak dra (q_w2 hei (m_dam σ) (q_w1 rai (m_t σ) (m_wat σ)))) 64) (m_lef σ) (q_cre hei (m_dam σ) (q_w1 rai (m_t σ) (m_wat σ))) (q_gain hei (q_w1 rai (m_t σ) (m_wat σ)) (m_dam σ) (q_cre hei (m_dam σ) (q_w1 rai (m_t σ) (m_wat σ))) 64) see fou) (cwV 0 hts gX0_goOneHour_X0_leaveTowns rfl rfl rfl (by decide +kernel) ⟨Nat.le_of_ble_eq_true rfl, Nat.le_of_ble_eq_true rfl⟩) hK hP hD hS hA [0, 1, 2, 3, 4, 5, 6, 7, 8, 9, 10, 11] [] ⟨rfl, rfl, rfl, rfl, rfl⟩ [0, 1, 2, 3, 4, 5, 6, 7, 8, 9, 10, 11] rfl (fun _ => rfl) [0] rfl (va_recv hK hP (ci := 0) (q0 := 0) rfl rfl) rfl hl.1 rfl (Nat.le_of_ble_eq_true rfl) rfl rfl ⟨Nat.le_of_ble_eq_true rfl, Nat.le_of_ble_eq_true rfl⟩ dX0_goOneHour_17 (fun u H locs hw hP hD hS => ?_)
  refine lv_aload_n hx hb dX0_goOneHour_20 rfl (lv_at hl 0 rfl) ?_
  refine lv_dup hx hb dX0_goOneHour_21 rfl ?_
  refine va_get (D := D) (ci := 0) (v := .int (nI (m_t σ))) (C := RX0) (T := TX0) (N := 15) hx hb hts (fun _ h9 => (List.mem_cons_of_mem _ (List.mem_append_right _ h9))) hown hK hP 0 rfl rfl 7 (by decide) (hts (Cond.fieldLink RX0 57 "FloodGrid$Plain" "hour" "I") (List.mem_of_getElem? (i := 1) rfl)) (fun _ h9 => h9) rfl dX0_goOneHour_22 ?_
  refine lv_iconst (v := 1) hx hb dX0_goOneHour_25 (by decide) ?_
  refine lv_iadd hx hb dX0_goOneHour_26 ?_
  refine ct_top (y := (nI ((m_t σ) + 1))) (nI_1 (m_t σ)) ?_
  refine va_put (D := D) (ci := 0) (v := .int (nI ((m_t σ) + 1))) (ty := .int) (C := RX0) (T := TX0) (N := 15) hx hb hts (fun _ h9 => (List.mem_cons_of_mem _ (List.mem_append_right _ h9))) tyX0 tyX0_ok nmX0 hown hK hP hD hS 0 rfl rfl 7 (by decide) (hts (Cond.fieldLink RX0 57 "FloodGrid$Plain" "hour" "I") (List.mem_of_getElem? (i := 1) rfl)) (fun _ h9 => h9) rfl (by decide +kernel) rfl rfl (Nat.le_of_ble_eq_true rfl) dX0_goOneHour_27 (fun H locs hP hD hS => ?_)
  have hP : va_P D vwCl (pW h ad cI hei (q_w3 dra (q_w2 hei (m_dam σ) (q_w1 rai (m_t σ) (m_wat σ)))) (q_dam (m_dam σ) (q_w2 hei (m_dam σ) (q_w1 rai (m_t σ) (m_wat σ))) (m_wea σ)) (q_wea (m_dam σ) (q_w2 hei (m_dam σ) (q_w1 rai (m_t σ) (m_wat σ))) (m_wea σ)) dra (q_peo (q_w3 dra (q_w2 hei (m_dam σ) (q_w1 rai (m_t σ) (m_wat σ)))) (m_peo σ)) rai (nI ((m_t σ) + 1)) (m_bro σ + q_sum (q_brk (m_dam σ) (q_w2 hei (m_dam σ) (q_w1 rai (m_t σ) (m_wat σ))) (m_wea σ)) 64) (m_drd σ + q_sum (q_tak dra (q_w2 hei (m_dam σ) (q_w1 rai (m_t σ) (m_wat σ)))) 64) (m_lef σ + q_sum (q_lv (q_w3 dra (q_w2 hei (m_dam σ) (q_w1 rai (m_t σ) (m_wat σ)))) (m_peo σ)) 64) (q_cre hei (m_dam σ) (q_w1 rai (m_t σ) (m_wat σ))) (q_gain hei (q_w1 rai (m_t σ) (m_wat σ)) (m_dam σ) (q_cre hei (m_dam σ) (q_w1 rai (m_t σ) (m_wat σ))) 64) see fou) H := hP
  have hD : va_D A (pW h ad cI hei (q_w3 dra (q_w2 hei (m_dam σ) (q_w1 rai (m_t σ) (m_wat σ)))) (q_dam (m_dam σ) (q_w2 hei (m_dam σ) (q_w1 rai (m_t σ) (m_wat σ))) (m_wea σ)) (q_wea (m_dam σ) (q_w2 hei (m_dam σ) (q_w1 rai (m_t σ) (m_wat σ))) (m_wea σ)) dra (q_peo (q_w3 dra (q_w2 hei (m_dam σ) (q_w1 rai (m_t σ) (m_wat σ)))) (m_peo σ)) rai (nI ((m_t σ) + 1)) (m_bro σ + q_sum (q_brk (m_dam σ) (q_w2 hei (m_dam σ) (q_w1 rai (m_t σ) (m_wat σ))) (m_wea σ)) 64) (m_drd σ + q_sum (q_tak dra (q_w2 hei (m_dam σ) (q_w1 rai (m_t σ) (m_wat σ)))) 64) (m_lef σ + q_sum (q_lv (q_w3 dra (q_w2 hei (m_dam σ) (q_w1 rai (m_t σ) (m_wat σ)))) (m_peo σ)) 64) (q_cre hei (m_dam σ) (q_w1 rai (m_t σ) (m_wat σ))) (q_gain hei (q_w1 rai (m_t σ) (m_wat σ)) (m_dam σ) (q_cre hei (m_dam σ) (q_w1 rai (m_t σ) (m_wat σ))) 64) see fou) := hD
  exact fin ((q_cre hei (m_dam σ) (q_w1 rai (m_t σ) (m_wat σ))), (q_gain hei (q_w1 rai (m_t σ) (m_wat σ)) (m_dam σ) (q_cre hei (m_dam σ) (q_w1 rai (m_t σ) (m_wat σ))) 64)) H locs 0 0 30 ls dX0_goOneHour_30 trivial hP hD hS (Nat.le_of_ble_eq_true rfl) (Nat.le_of_ble_eq_true rfl)
abbrev rm_X0_goHours : Room := { frames := 4, cells := 0, slots := 0, locals := 88 }
set_option maxHeartbeats 4000000 in
set_option maxRecDepth 100000 in
theorem c_X0_hours (l : Launch) (D : va_G) (cI : ClassId) (h : Nat) (ad : Nat → Nat) (hei dra rai : Nat → Int32) (σ : Ms) (cre gai see fou : Nat → Int32) (n : Nat) (hn : n < 2 ^ 20) (ht : m_t σ + n < 2 ^ 30) : ct_i (S := (Nat → Int32) × (Nat → Int32)) l D yX0_goHours wsX0_goHours rm_X0_goHours [.ref h, .int (nI n)] (pM h ad cI hei dra rai σ cre gai see fou) [(cI, .int)] (fun r _ => r = m_lef (q_hours hei dra rai n σ) - m_lef σ) (fun u => (pM h ad cI hei dra rai (q_hours hei dra rai n σ) u.1 u.2 see fou)) := by
  refine ct_ofi (cc := cX0_goHours) (maxL := 4) (by decide) rfl (Nat.le_of_ble_eq_true rfl) ?_
  intro p e s m args below meth c A Q hx hb hml hown hts hin hA hK H locs hP hD hS fin ls hl
  have hown : s.vm.findClass RX0 = some m.cls := hown
  have hl : lv_has ls 4 [(0, .ref h), (1, .int (nI n))] := hl
  refine lv_aload_n hx hb dX0_goHours_0 rfl (lv_at hl 0 rfl) ?_
  refine va_get (D := D) (ci := 0) (v := .int (m_lef σ)) (C := RX0) (T := TX0) (N := 15) hx hb hts (fun _ h9 => (List.mem_cons_of_mem _ (List.mem_append_right _ h9))) hown hK hP 0 rfl rfl 10 (by decide) (hts (Cond.fieldLink RX0 67 "FloodGrid$Plain" "left" "I") (List.mem_of_getElem? (i := 1) rfl)) (fun _ h9 => h9) rfl dX0_goHours_1 ?_
  refine lv_istore_n (lv' := [(2, .int (m_lef σ)), (0, .ref h), (1, .int (nI n))]) hx hb dX0_goHours_4 rfl hl (by decide) rfl (fun ls hl => ?_)
  refine lv_iconst (v := 0) hx hb dX0_goHours_5 (by decide) ?_
  refine lv_istore_n (lv' := [(3, .int 0), (2, .int (m_lef σ)), (0, .ref h), (1, .int (nI n))]) hx hb dX0_goHours_6 rfl hl (by decide) rfl (fun ls hl => ?_)
  have loop : ∀ (fu i : Nat), i + fu = n → ∀ (c1 : Nat → Int32) (g1 : Nat → Int32) (H : Heap) (locs : List Loc) (ls : Array Slot), va_P D vwCl (pM h ad cI hei dra rai (q_hours hei dra rai i σ) c1 g1 see fou) H → va_D A (pM h ad cI hei dra rai (q_hours hei dra rai i σ) c1 g1 see fou) → va_S A s.heap H locs → lv_has ls 4 [(0, .ref h), (1, .int (nI n)), (2, .int (m_lef σ)), (3, .int (nI i))] → W p l e rm_X0_goHours s m args below meth c H locs 0 0 Q (F0 m 7 ls []) := by
    intro fu
    induction fu with
    | zero =>
      intro i hi c1 g1 H locs ls  hP hD hS hl
      obtain rfl : n = i := by omega
      refine lv_iload_n hx hb dX0_goHours_7 rfl (lv_at hl 3 rfl) ?_
      refine lv_iload_n hx hb dX0_goHours_8 rfl (lv_at hl 1 rfl) ?_
      refine lv_icmp_ge (tgt := 22) hx hb dX0_goHours_9 (by decide) (fun hc => ?_) (fun hc => ?_)
      · skip
        refine lv_aload_n hx hb dX0_goHours_22 rfl (lv_at hl 0 rfl) ?_
        refine va_get (D := D) (ci := 0) (v := .int (m_lef (q_hours hei dra rai n σ))) (C := RX0) (T := TX0) (N := 15) hx hb hts (fun _ h9 => (List.mem_cons_of_mem _ (List.mem_append_right _ h9))) hown hK hP 0 rfl rfl 10 (by decide) (hts (Cond.fieldLink RX0 67 "FloodGrid$Plain" "left" "I") (List.mem_of_getElem? (i := 1) rfl)) (fun _ h9 => h9) rfl dX0_goHours_23 ?_
        refine lv_iload_n hx hb dX0_goHours_26 rfl (lv_at hl 2 rfl) ?_
        refine lv_isub hx hb dX0_goHours_27 ?_
        exact fin ((m_lef (q_hours hei dra rai n σ)) - (m_lef σ)) (c1, g1) H locs 0 0 28 ls dX0_goHours_28 rfl hP hD hS (Nat.le_of_ble_eq_true rfl) (Nat.le_of_ble_eq_true rfl)
      · skip
        exact absurd (Int32.le_refl _) hc
    | succ fu ih =>
      intro i hi c1 g1 H locs ls  hP hD hS hl
      have hlt : i < n := by omega
      refine lv_iload_n hx hb dX0_goHours_7 rfl (lv_at hl 3 rfl) ?_
      refine lv_iload_n hx hb dX0_goHours_8 rfl (lv_at hl 1 rfl) ?_
      refine lv_icmp_ge (tgt := 22) hx hb dX0_goHours_9 (by decide) (fun hc => ?_) (fun hc => ?_)
      · skip
        exact absurd hc (nI_ge hlt (by omega))
      · skip
        refine lv_aload_n hx hb dX0_goHours_12 rfl (lv_at hl 0 rfl) ?_
        refine ct_Vv (As := []) (rest := []) (wr := []) (W1 := fun u => (pM h ad cI hei dra rai (q_hours hei dra rai (i + 1) σ) u.1 u.2 see fou)) (cells1 := 0) (slots1 := 0) ⟨hx, hb, hml, hown, hts⟩ (c_X0_hour l D cI h ad hei dra rai (q_hours hei dra rai i σ) c1 g1 see fou (by rw [q_hours_t]; omega)) (cwV 0 hts gX0_goHours_X0_goOneHour rfl rfl rfl (by decide +kernel) ⟨Nat.le_of_ble_eq_true rfl, Nat.le_of_ble_eq_true rfl⟩) hK hP hD hS hA [0, 1, 2, 3, 4, 5, 6, 7, 8, 9, 10, 11] [] ⟨rfl, rfl, rfl, rfl, rfl⟩ [0, 1, 2, 3, 4, 5, 6, 7, 8, 9, 10, 11] rfl (fun _ => rfl) [0] rfl (va_recv hK hP (ci := 0) (q0 := 0) rfl rfl) rfl hl.1 rfl (Nat.le_of_ble_eq_true rfl) rfl rfl ⟨Nat.le_of_ble_eq_true rfl, Nat.le_of_ble_eq_true rfl⟩ dX0_goHours_13 (fun u H locs hw hP hD hS => ?_)
        refine lv_iinc (v := (nI (i + 1))) (lv' := [(3, .int (nI (i + 1))), (0, .ref h), (1, .int (nI n)), (2, .int (m_lef σ))]) hx hb dX0_goHours_16 hl (k := 3) rfl (nI_1 i) (by decide) rfl (fun ls hl => ?_)
        refine lv_goto (tgt := 7) hx hb dX0_goHours_19 (by decide) ?_
        exact ih (i + 1) (by omega) u.1 u.2 H locs ls  hP hD hS (lv_sub hl [1, 2, 3, 0] rfl)
  exact loop n 0 (by omega) cre gai H locs ls  hP hD hS (lv_sub hl [2, 3, 1, 0] rfl)
end
section
abbrev rm_X0_sum : Room := { frames := 0, cells := 0, slots := 0, locals := 0 }
set_option maxHeartbeats 4000000 in
set_option maxRecDepth 100000 in
theorem c_X0_sum (l : Launch) (D : va_G) (cI : ClassId) (h a n : Nat) (hn : n < 2 ^ 31) (f : Nat → Int32) : ct_i (S := Unit) l D yX0_sum wsX0_sum rm_X0_sum [.ref h, .ref a] ([(a, .inl (cI, n, .inl f))]) [(cI, .int)] (fun r _ => r = q_sum f n) (fun _ => ([(a, .inl (cI, n, .inl f))])) := by
  refine ct_ofi (cc := cX0_sum) (maxL := 7) (by decide) rfl (Nat.le_of_ble_eq_true rfl) ?_
  intro p e s m args below meth c A Q hx hb hml hown hts hin hA hK H locs hP hD hS fin ls hl
  have hown : s.vm.findClass RX0 = some m.cls := hown
  have hl : lv_has ls 7 [(0, .ref h), (1, .ref a)] := hl
  refine lv_iconst (v := 0) hx hb dX0_sum_0 (by decide) ?_
  refine lv_istore_n (lv' := [(2, .int 0), (0, .ref h), (1, .ref a)]) hx hb dX0_sum_1 rfl hl (by decide) rfl (fun ls hl => ?_)
  refine lv_aload_n hx hb dX0_sum_2 rfl (lv_at hl 2 rfl) ?_
  refine lv_astore_n (lv' := [(3, .ref a), (2, .int 0), (0, .ref h), (1, .ref a)]) hx hb dX0_sum_3 rfl hl (by decide) rfl (fun ls hl => ?_)
  refine lv_aload_n hx hb dX0_sum_4 rfl (lv_at hl 0 rfl) ?_
  refine va_alen (v := (nI n)) hx hb hK hP 0 rfl (t0 := 0) rfl rfl dX0_sum_5 ?_
  refine lv_istore (lv' := [(4, .int (nI n)), (3, .ref a), (2, .int 0), (0, .ref h), (1, .ref a)]) hx hb dX0_sum_6 hl (by decide) rfl (fun ls hl => ?_)
  refine lv_iconst (v := 0) hx hb dX0_sum_8 (by decide) ?_
  refine lv_istore (lv' := [(5, .int 0), (4, .int (nI n)), (3, .ref a), (2, .int 0), (0, .ref h), (1, .ref a)]) hx hb dX0_sum_9 hl (by decide) rfl (fun ls hl => ?_)
  have loop : ∀ (fu i : Nat), i + fu = n → ∀ (b : Int32) (H : Heap) (locs : List Loc) (ls : Array Slot), (b = q_sum f i) → va_P D vwCl ([(a, .inl (cI, n, .inl f))]) H → va_D A ([(a, .inl (cI, n, .inl f))]) → va_S A s.heap H locs → lv_has ls 7 [(0, .ref h), (1, .ref a), (2, .int b), (3, .ref a), (4, .int (nI n)), (5, .int (nI i))] → W p l e rm_X0_sum s m args below meth c H locs 0 0 Q (F0 m 11 ls []) := by
    intro fu
    induction fu with
    | zero =>
      intro i hi b H locs ls hb2 hP hD hS hl
      obtain rfl : n = i := by omega
      refine lv_iload hx hb dX0_sum_11 (lv_at hl 5 rfl) ?_
      refine lv_iload hx hb dX0_sum_13 (lv_at hl 4 rfl) ?_
      refine lv_icmp_ge (tgt := 35) hx hb dX0_sum_15 (by decide) (fun hc => ?_) (fun hc => ?_)
      · skip
        refine lv_iload_n hx hb dX0_sum_35 rfl (lv_at hl 2 rfl) ?_
        exact fin b () H locs 0 0 36 ls dX0_sum_36 hb2 hP hD hS (Nat.le_of_ble_eq_true rfl) (Nat.le_of_ble_eq_true rfl)
      · skip
        exact absurd (Int32.le_refl _) hc
    | succ fu ih =>
      intro i hi b H locs ls hb2 hP hD hS hl
      have hlt : i < n := by omega
      refine lv_iload hx hb dX0_sum_11 (lv_at hl 5 rfl) ?_
      refine lv_iload hx hb dX0_sum_13 (lv_at hl 4 rfl) ?_
      refine lv_icmp_ge (tgt := 35) hx hb dX0_sum_15 (by decide) (fun hc => ?_) (fun hc => ?_)
      · skip
        exact absurd hc (nI_ge hlt hn)
      · skip
        refine lv_aload_n hx hb dX0_sum_18 rfl (lv_at hl 3 rfl) ?_
        refine lv_iload hx hb dX0_sum_19 (lv_at hl 5 rfl) ?_
        refine ct_iald (v := (f i)) hx hb hK hP 0 0 rfl rfl i rfl hlt hn rfl dX0_sum_21 ?_
        refine lv_istore (lv' := [(6, .int (f i)), (0, .ref h), (1, .ref a), (2, .int b), (3, .ref a), (4, .int (nI n)), (5, .int (nI i))]) hx hb dX0_sum_22 hl (by decide) rfl (fun ls hl => ?_)
        refine lv_iload_n hx hb dX0_sum_24 rfl (lv_at hl 3 rfl) ?_
        refine lv_iload hx hb dX0_sum_25 (lv_at hl 0 rfl) ?_
        refine lv_iadd hx hb dX0_sum_27 ?_
        refine lv_istore_n (lv' := [(2, .int (b + (f i))), (6, .int (f i)), (0, .ref h), (1, .ref a), (3, .ref a), (4, .int (nI n)), (5, .int (nI i))]) hx hb dX0_sum_28 rfl hl (by decide) rfl (fun ls hl => ?_)
        refine lv_iinc (v := (nI (i + 1))) (lv' := [(5, .int (nI (i + 1))), (2, .int (b + (f i))), (6, .int (f i)), (0, .ref h), (1, .ref a), (3, .ref a), (4, .int (nI n))]) hx hb dX0_sum_29 hl (k := 6) rfl (nI_1 i) (by decide) rfl (fun ls hl => ?_)
        refine lv_goto (tgt := 11) hx hb dX0_sum_32 (by decide) ?_
        exact ih (i + 1) (by omega) (b + f i) H locs ls (by rw [hb2]; rfl) hP hD hS (lv_sub hl [3, 4, 1, 5, 6, 0] rfl)
  exact loop n 0 (by omega) 0 H locs ls rfl hP hD hS (lv_sub hl [4, 5, 3, 2, 1, 0] rfl)
abbrev rm_X0_above0 : Room := { frames := 0, cells := 0, slots := 0, locals := 0 }
set_option maxHeartbeats 4000000 in
set_option maxRecDepth 100000 in
theorem c_X0_above0 (l : Launch) (D : va_G) (cI : ClassId) (h a n : Nat) (hn : n < 2 ^ 31) (f : Nat → Int32) : ct_i (S := Unit) l D yX0_above0 wsX0_above0 rm_X0_above0 [.ref h, .ref a] ([(a, .inl (cI, n, .inl f))]) [(cI, .int)] (fun r _ => r = q_sum (q_pos f) n) (fun _ => ([(a, .inl (cI, n, .inl f))])) := by
  refine ct_ofi (cc := cX0_above0) (maxL := 7) (by decide) rfl (Nat.le_of_ble_eq_true rfl) ?_
  intro p e s m args below meth c A Q hx hb hml hown hts hin hA hK H locs hP hD hS fin ls hl
  have hown : s.vm.findClass RX0 = some m.cls := hown
  have hl : lv_has ls 7 [(0, .ref h), (1, .ref a)] := hl
  refine lv_iconst (v := 0) hx hb dX0_above0_0 (by decide) ?_
  refine lv_istore_n (lv' := [(2, .int 0), (0, .ref h), (1, .ref a)]) hx hb dX0_above0_1 rfl hl (by decide) rfl (fun ls hl => ?_)
  refine lv_aload_n hx hb dX0_above0_2 rfl (lv_at hl 2 rfl) ?_
  refine lv_astore_n (lv' := [(3, .ref a), (2, .int 0), (0, .ref h), (1, .ref a)]) hx hb dX0_above0_3 rfl hl (by decide) rfl (fun ls hl => ?_)
  refine lv_aload_n hx hb dX0_above0_4 rfl (lv_at hl 0 rfl) ?_
  refine va_alen (v := (nI n)) hx hb hK hP 0 rfl (t0 := 0) rfl rfl dX0_above0_5 ?_
  refine lv_istore (lv' := [(4, .int (nI n)), (3, .ref a), (2, .int 0), (0, .ref h), (1, .ref a)]) hx hb dX0_above0_6 hl (by decide) rfl (fun ls hl => ?_)
  refine lv_iconst (v := 0) hx hb dX0_above0_8 (by decide) ?_
  refine lv_istore (lv' := [(5, .int 0), (4, .int (nI n)), (3, .ref a), (2, .int 0), (0, .ref h), (1, .ref a)]) hx hb dX0_above0_9 hl (by decide) rfl (fun ls hl => ?_)
  have loop : ∀ (fu i : Nat), i + fu = n → ∀ (b : Int32) (H : Heap) (locs : List Loc) (ls : Array Slot), (b = q_sum (q_pos f) i) → va_P D vwCl ([(a, .inl (cI, n, .inl f))]) H → va_D A ([(a, .inl (cI, n, .inl f))]) → va_S A s.heap H locs → lv_has ls 7 [(0, .ref h), (1, .ref a), (2, .int b), (3, .ref a), (4, .int (nI n)), (5, .int (nI i))] → W p l e rm_X0_above0 s m args below meth c H locs 0 0 Q (F0 m 11 ls []) := by
    intro fu
    induction fu with
    | zero =>
      intro i hi b H locs ls hb2 hP hD hS hl
      obtain rfl : n = i := by omega
      refine lv_iload hx hb dX0_above0_11 (lv_at hl 5 rfl) ?_
      refine lv_iload hx hb dX0_above0_13 (lv_at hl 4 rfl) ?_
      refine lv_icmp_ge (tgt := 38) hx hb dX0_above0_15 (by decide) (fun hc => ?_) (fun hc => ?_)
      · skip
        refine lv_iload_n hx hb dX0_above0_38 rfl (lv_at hl 2 rfl) ?_
        exact fin b () H locs 0 0 39 ls dX0_above0_39 hb2 hP hD hS (Nat.le_of_ble_eq_true rfl) (Nat.le_of_ble_eq_true rfl)
      · skip
        exact absurd (Int32.le_refl _) hc
    | succ fu ih =>
      intro i hi b H locs ls hb2 hP hD hS hl
      have hlt : i < n := by omega
      refine lv_iload hx hb dX0_above0_11 (lv_at hl 5 rfl) ?_
      refine lv_iload hx hb dX0_above0_13 (lv_at hl 4 rfl) ?_
      refine lv_icmp_ge (tgt := 38) hx hb dX0_above0_15 (by decide) (fun hc => ?_) (fun hc => ?_)
      · skip
        exact absurd hc (nI_ge hlt hn)
      · skip
        refine lv_aload_n hx hb dX0_above0_18 rfl (lv_at hl 3 rfl) ?_
        refine lv_iload hx hb dX0_above0_19 (lv_at hl 5 rfl) ?_
        refine ct_iald (v := (f i)) hx hb hK hP 0 0 rfl rfl i rfl hlt hn rfl dX0_above0_21 ?_
        refine lv_istore (lv' := [(6, .int (f i)), (0, .ref h), (1, .ref a), (2, .int b), (3, .ref a), (4, .int (nI n)), (5, .int (nI i))]) hx hb dX0_above0_22 hl (by decide) rfl (fun ls hl => ?_)
        refine lv_iload hx hb dX0_above0_24 (lv_at hl 0 rfl) ?_
        refine lv_if_le (tgt := 32) hx hb dX0_above0_26 (by decide) (fun hc2 => ?_) (fun hc2 => ?_)
        · skip
          refine lv_iinc (v := (nI (i + 1))) (lv' := [(5, .int (nI (i + 1))), (6, .int (f i)), (0, .ref h), (1, .ref a), (2, .int b), (3, .ref a), (4, .int (nI n))]) hx hb dX0_above0_32 hl (k := 6) rfl (nI_1 i) (by decide) rfl (fun ls hl => ?_)
          refine lv_goto (tgt := 11) hx hb dX0_above0_35 (by decide) ?_
          exact ih (i + 1) (by omega) b H locs ls (by rw [hb2]; simp only [q_sum, q_pos]; rw [if_neg (Int32.not_lt.mpr hc2), Int32.add_zero]) hP hD hS (lv_sub hl [2, 3, 4, 5, 6, 0] rfl)
        · skip
          refine lv_iinc (v := (b + 1)) (lv' := [(2, .int (b + 1)), (6, .int (f i)), (0, .ref h), (1, .ref a), (3, .ref a), (4, .int (nI n)), (5, .int (nI i))]) hx hb dX0_above0_29 hl (k := 3) rfl rfl (by decide) rfl (fun ls hl => ?_)
          refine lv_iinc (v := (nI (i + 1))) (lv' := [(5, .int (nI (i + 1))), (2, .int (b + 1)), (6, .int (f i)), (0, .ref h), (1, .ref a), (3, .ref a), (4, .int (nI n))]) hx hb dX0_above0_32 hl (k := 6) rfl (nI_1 i) (by decide) rfl (fun ls hl => ?_)
          refine lv_goto (tgt := 11) hx hb dX0_above0_35 (by decide) ?_
          exact ih (i + 1) (by omega) (b + 1) H locs ls (by rw [hb2]; simp only [q_sum, q_pos]; rw [if_pos (Int32.not_le.mp hc2)]) hP hD hS (lv_sub hl [3, 4, 1, 5, 6, 0] rfl)
  exact loop n 0 (by omega) 0 H locs ls rfl hP hD hS (lv_sub hl [4, 5, 3, 2, 1, 0] rfl)
abbrev rm_X0_wetCells : Room := { frames := 1, cells := 0, slots := 0, locals := 26 }
set_option maxHeartbeats 4000000 in
set_option maxRecDepth 100000 in
theorem c_X0_wet (l : Launch) (D : va_G) (cI : ClassId) (h : Nat) (ad : Nat → Nat) (hei wat dam wea dra peo rai : Nat → Int32) (hou bro drd lef : Int32) (cre gai see fou : Nat → Int32) : ct_i (S := Unit) l D yX0_wetCells wsX0_wetCells rm_X0_wetCells [.ref h] (pW h ad cI hei wat dam wea dra peo rai hou bro drd lef cre gai see fou) [(cI, .int)] (fun r _ => r = q_sum (q_pos wat) 64) (fun _ => (pW h ad cI hei wat dam wea dra peo rai hou bro drd lef cre gai see fou)) := by
  refine ct_ofi (cc := cX0_wetCells) (maxL := 1) (by decide) rfl (Nat.le_of_ble_eq_true rfl) ?_
  intro p e s m args below meth c A Q hx hb hml hown hts hin hA hK H locs hP hD hS fin ls hl
  have hown : s.vm.findClass RX0 = some m.cls := hown
  have hl : lv_has ls 1 [(0, .ref h)] := hl
  refine lv_aload_n hx hb dX0_wetCells_0 rfl (lv_at hl 0 rfl) ?_
  refine lv_aload_n hx hb dX0_wetCells_1 rfl (lv_at hl 0 rfl) ?_
  refine va_get (D := D) (ci := 0) (v := .ref (ad 1)) (C := RX0) (T := TX0) (N := 15) hx hb hts (fun _ h9 => (List.mem_cons_of_mem _ (List.mem_append_right _ h9))) hown hK hP 0 rfl rfl 1 (by decide) (hts (Cond.fieldLink RX0 15 "FloodGrid$Plain" "water" "[I") (List.mem_of_getElem? (i := 1) rfl)) (fun _ h9 => h9) rfl dX0_wetCells_2 ?_
  refine ct_Vi (As := [.ref (ad 1)]) (rest := []) (wr := [(h, .inr (0, [.ref (ad 0), .ref (ad 1), .ref (ad 2), .ref (ad 3), .ref (ad 4), .ref (ad 5), .ref (ad 6), .int hou, .int bro, .int drd, .int lef, .ref (ad 11), .ref (ad 12), .ref (ad 13), .ref (ad 14)])), ((ad 0), .inl (cI, 64, .inl hei)), ((ad 2), .inl (cI, 64, .inl dam)), ((ad 3), .inl (cI, 64, .inl wea)), ((ad 4), .inl (cI, 64, .inl dra)), ((ad 5), .inl (cI, 64, .inl peo)), ((ad 6), .inl (cI, 12, .inl rai)), ((ad 11), .inl (cI, 64, .inl cre)), ((ad 12), .inl (cI, 64, .inl gai)), ((ad 13), .inl (cI, 64, .inl see)), ((ad 14), .inl (cI, 64, .inl fou))]) (W1 := fun u => (pW h ad cI hei wat dam wea dra peo rai hou bro drd lef cre gai see fou)) (cells1 := 0) (slots1 := 0) ⟨hx, hb, hml, hown, hts⟩ (c_X0_above0 l D cI h (ad 1) 64 (by decide) wat) (cwV 1 hts gX0_wetCells_X0_above0 rfl rfl rfl (by decide +kernel) ⟨Nat.le_of_ble_eq_true rfl, Nat.le_of_ble_eq_true rfl⟩) hK hP hD hS hA [2] [0, 1, 3, 4, 5, 6, 7, 8, 9, 10, 11] ⟨rfl, rfl, rfl, rfl, rfl⟩ [0, 1, 11, 2, 3, 4, 5, 6, 7, 8, 9, 10] rfl (fun _ => rfl) [0] rfl (va_recv hK hP (ci := 0) (q0 := 0) rfl rfl) rfl hl.1 rfl (Nat.le_of_ble_eq_true rfl) rfl rfl ⟨Nat.le_of_ble_eq_true rfl, Nat.le_of_ble_eq_true rfl⟩ dX0_wetCells_5 (fun r u H locs hw hP hD hS => ?_)
  exact fin r () H locs 0 0 8 ls dX0_wetCells_8 hw hP hD hS (Nat.le_of_ble_eq_true rfl) (Nat.le_of_ble_eq_true rfl)
abbrev rm_X0_cellNumber : Room := { frames := 2, cells := 0, slots := 0, locals := 42 }
set_option maxHeartbeats 4000000 in
set_option maxRecDepth 100000 in
theorem c_X0_cell (l : Launch) (D : va_G) (cI : ClassId) (h : Nat) (ad : Nat → Nat) (hei wat dam wea dra peo rai : Nat → Int32) (hou bro drd lef : Int32) (cre gai see fou : Nat → Int32) (k : Nat) (hk : k < 64) (wh : Nat) (hwh : wh < 8) : ct_i (S := Unit) l D yX0_cellNumber wsX0_cellNumber rm_X0_cellNumber [.ref h, .int (nI k), .int (nI wh)] (pW h ad cI hei wat dam wea dra peo rai hou bro drd lef cre gai see fou) [(cI, .int)] (fun r _ => r = q_cell hei wat dam wea dra peo k wh) (fun _ => (pW h ad cI hei wat dam wea dra peo rai hou bro drd lef cre gai see fou)) := by
  refine ct_ofi (cc := cX0_cellNumber) (maxL := 3) (by decide) rfl (Nat.le_of_ble_eq_true rfl) ?_
  intro p e s m args below meth c A Q hx hb hml hown hts hin hA hK H locs hP hD hS fin ls hl
  have hown : s.vm.findClass RX0 = some m.cls := hown
  have hl : lv_has ls 3 [(0, .ref h), (1, .int (nI k)), (2, .int (nI wh))] := hl
  refine lv_iload_n hx hb dX0_cellNumber_0 rfl (lv_at hl 2 rfl) ?_
  rcases (show wh = 0 ∨ wh = 1 ∨ wh = 2 ∨ wh = 3 ∨ wh = 4 ∨ wh = 5 ∨ wh = 6 ∨ wh = 7 by omega) with rfl | rfl | rfl | rfl | rfl | rfl | rfl | rfl
  · skip
    refine lv_tableIn (tgt := 44) hx hb dX0_cellNumber_1 (by decide) (by decide) rfl (by decide) ?_
    refine lv_aload_n hx hb dX0_cellNumber_44 rfl (lv_at hl 0 rfl) ?_
    refine va_get (D := D) (ci := 0) (v := .ref (ad 0)) (C := RX0) (T := TX0) (N := 15) hx hb hts (fun _ h9 => (List.mem_cons_of_mem _ (List.mem_append_right _ h9))) hown hK hP 0 rfl rfl 0 (by decide) (hts (Cond.fieldLink RX0 9 "FloodGrid$Plain" "height" "[I") (List.mem_of_getElem? (i := 1) rfl)) (fun _ h9 => h9) rfl dX0_cellNumber_45 ?_
    refine lv_iload_n hx hb dX0_cellNumber_48 rfl (lv_at hl 1 rfl) ?_
    refine ct_iald (v := hei k) hx hb hK hP 1 0 rfl rfl k rfl (by omega) (by decide) rfl dX0_cellNumber_49 ?_
    exact fin (hei k) () H locs 0 0 50 ls dX0_cellNumber_50 rfl hP hD hS (Nat.le_of_ble_eq_true rfl) (Nat.le_of_ble_eq_true rfl)
  · skip
    refine lv_tableIn (tgt := 51) hx hb dX0_cellNumber_1 (by decide) (by decide) rfl (by decide) ?_
    refine lv_aload_n hx hb dX0_cellNumber_51 rfl (lv_at hl 0 rfl) ?_
    refine va_get (D := D) (ci := 0) (v := .ref (ad 1)) (C := RX0) (T := TX0) (N := 15) hx hb hts (fun _ h9 => (List.mem_cons_of_mem _ (List.mem_append_right _ h9))) hown hK hP 0 rfl rfl 1 (by decide) (hts (Cond.fieldLink RX0 15 "FloodGrid$Plain" "water" "[I") (List.mem_of_getElem? (i := 2) rfl)) (fun _ h9 => h9) rfl dX0_cellNumber_52 ?_
    refine lv_iload_n hx hb dX0_cellNumber_55 rfl (lv_at hl 1 rfl) ?_
    refine ct_iald (v := wat k) hx hb hK hP 2 0 rfl rfl k rfl (by omega) (by decide) rfl dX0_cellNumber_56 ?_
    exact fin (wat k) () H locs 0 0 57 ls dX0_cellNumber_57 rfl hP hD hS (Nat.le_of_ble_eq_true rfl) (Nat.le_of_ble_eq_true rfl)
  · skip
    refine lv_tableIn (tgt := 58) hx hb dX0_cellNumber_1 (by decide) (by decide) rfl (by decide) ?_
    refine lv_aload_n hx hb dX0_cellNumber_58 rfl (lv_at hl 0 rfl) ?_
    refine va_get (D := D) (ci := 0) (v := .ref (ad 2)) (C := RX0) (T := TX0) (N := 15) hx hb hts (fun _ h9 => (List.mem_cons_of_mem _ (List.mem_append_right _ h9))) hown hK hP 0 rfl rfl 2 (by decide) (hts (Cond.fieldLink RX0 18 "FloodGrid$Plain" "dam" "[I") (List.mem_of_getElem? (i := 3) rfl)) (fun _ h9 => h9) rfl dX0_cellNumber_59 ?_
    refine lv_iload_n hx hb dX0_cellNumber_62 rfl (lv_at hl 1 rfl) ?_
    refine ct_iald (v := dam k) hx hb hK hP 3 0 rfl rfl k rfl (by omega) (by decide) rfl dX0_cellNumber_63 ?_
    exact fin (dam k) () H locs 0 0 64 ls dX0_cellNumber_64 rfl hP hD hS (Nat.le_of_ble_eq_true rfl) (Nat.le_of_ble_eq_true rfl)
  · skip
    refine lv_tableIn (tgt := 65) hx hb dX0_cellNumber_1 (by decide) (by decide) rfl (by decide) ?_
    refine lv_aload_n hx hb dX0_cellNumber_65 rfl (lv_at hl 0 rfl) ?_
    refine va_get (D := D) (ci := 0) (v := .ref (ad 3)) (C := RX0) (T := TX0) (N := 15) hx hb hts (fun _ h9 => (List.mem_cons_of_mem _ (List.mem_append_right _ h9))) hown hK hP 0 rfl rfl 3 (by decide) (hts (Cond.fieldLink RX0 21 "FloodGrid$Plain" "wear" "[I") (List.mem_of_getElem? (i := 4) rfl)) (fun _ h9 => h9) rfl dX0_cellNumber_66 ?_
    refine lv_iload_n hx hb dX0_cellNumber_69 rfl (lv_at hl 1 rfl) ?_
    refine ct_iald (v := wea k) hx hb hK hP 4 0 rfl rfl k rfl (by omega) (by decide) rfl dX0_cellNumber_70 ?_
    exact fin (wea k) () H locs 0 0 71 ls dX0_cellNumber_71 rfl hP hD hS (Nat.le_of_ble_eq_true rfl) (Nat.le_of_ble_eq_true rfl)
  · skip
    refine lv_tableIn (tgt := 72) hx hb dX0_cellNumber_1 (by decide) (by decide) rfl (by decide) ?_
    refine lv_aload_n hx hb dX0_cellNumber_72 rfl (lv_at hl 0 rfl) ?_
    refine va_get (D := D) (ci := 0) (v := .ref (ad 4)) (C := RX0) (T := TX0) (N := 15) hx hb hts (fun _ h9 => (List.mem_cons_of_mem _ (List.mem_append_right _ h9))) hown hK hP 0 rfl rfl 4 (by decide) (hts (Cond.fieldLink RX0 24 "FloodGrid$Plain" "drain" "[I") (List.mem_of_getElem? (i := 5) rfl)) (fun _ h9 => h9) rfl dX0_cellNumber_73 ?_
    refine lv_iload_n hx hb dX0_cellNumber_76 rfl (lv_at hl 1 rfl) ?_
    refine ct_iald (v := dra k) hx hb hK hP 5 0 rfl rfl k rfl (by omega) (by decide) rfl dX0_cellNumber_77 ?_
    exact fin (dra k) () H locs 0 0 78 ls dX0_cellNumber_78 rfl hP hD hS (Nat.le_of_ble_eq_true rfl) (Nat.le_of_ble_eq_true rfl)
  · skip
    refine lv_tableIn (tgt := 79) hx hb dX0_cellNumber_1 (by decide) (by decide) rfl (by decide) ?_
    refine lv_aload_n hx hb dX0_cellNumber_79 rfl (lv_at hl 0 rfl) ?_
    refine va_get (D := D) (ci := 0) (v := .ref (ad 5)) (C := RX0) (T := TX0) (N := 15) hx hb hts (fun _ h9 => (List.mem_cons_of_mem _ (List.mem_append_right _ h9))) hown hK hP 0 rfl rfl 5 (by decide) (hts (Cond.fieldLink RX0 27 "FloodGrid$Plain" "people" "[I") (List.mem_of_getElem? (i := 6) rfl)) (fun _ h9 => h9) rfl dX0_cellNumber_80 ?_
    refine lv_iload_n hx hb dX0_cellNumber_83 rfl (lv_at hl 1 rfl) ?_
    refine ct_iald (v := peo k) hx hb hK hP 6 0 rfl rfl k rfl (by omega) (by decide) rfl dX0_cellNumber_84 ?_
    exact fin (peo k) () H locs 0 0 85 ls dX0_cellNumber_85 rfl hP hD hS (Nat.le_of_ble_eq_true rfl) (Nat.le_of_ble_eq_true rfl)
  · skip
    refine lv_tableIn (tgt := 86) hx hb dX0_cellNumber_1 (by decide) (by decide) rfl (by decide) ?_
    refine lv_aload_n hx hb dX0_cellNumber_86 rfl (lv_at hl 0 rfl) ?_
    refine lv_iload_n hx hb dX0_cellNumber_87 rfl (lv_at hl 1 rfl) ?_
    refine ct_Vi (As := [.int (nI k)]) (rest := []) (wr := []) (W1 := fun u => (pW h ad cI hei wat dam wea dra peo rai hou bro drd lef cre gai see fou)) (cells1 := 0) (slots1 := 0) ⟨hx, hb, hml, hown, hts⟩ (c_X0_levelOf l D cI h ad hei wat dam wea dra peo rai hou bro drd lef cre gai see fou k hk) (cwV 1 hts gX0_cellNumber_X0_levelOf rfl rfl rfl (by decide +kernel) ⟨Nat.le_of_ble_eq_true rfl, Nat.le_of_ble_eq_true rfl⟩) hK hP hD hS hA [0, 1, 2, 3, 4, 5, 6, 7, 8, 9, 10, 11] [] ⟨rfl, rfl, rfl, rfl, rfl⟩ [0, 1, 2, 3, 4, 5, 6, 7, 8, 9, 10, 11] rfl (fun _ => rfl) [0] rfl (va_recv hK hP (ci := 0) (q0 := 0) rfl rfl) rfl hl.1 rfl (Nat.le_of_ble_eq_true rfl) rfl rfl ⟨Nat.le_of_ble_eq_true rfl, Nat.le_of_ble_eq_true rfl⟩ dX0_cellNumber_88 (fun r u H locs hw hP hD hS => ?_)
    exact fin r () H locs 0 0 91 ls dX0_cellNumber_91 hw hP hD hS (Nat.le_of_ble_eq_true rfl) (Nat.le_of_ble_eq_true rfl)
  · skip
    refine lv_tableOut (tgt := 92) hx hb dX0_cellNumber_1 (Or.inr (by decide)) (by decide) ?_
    refine lv_aload_n hx hb dX0_cellNumber_92 rfl (lv_at hl 0 rfl) ?_
    refine lv_iload_n hx hb dX0_cellNumber_93 rfl (lv_at hl 1 rfl) ?_
    refine ct_Vi (As := [.int (nI k)]) (rest := []) (wr := []) (W1 := fun u => (pW h ad cI hei wat dam wea dra peo rai hou bro drd lef cre gai see fou)) (cells1 := 0) (slots1 := 0) ⟨hx, hb, hml, hown, hts⟩ (c_X0_crestOf l D cI h ad hei wat dam wea dra peo rai hou bro drd lef cre gai see fou k hk) (cwV 1 hts gX0_cellNumber_X0_crestOf rfl rfl rfl (by decide +kernel) ⟨Nat.le_of_ble_eq_true rfl, Nat.le_of_ble_eq_true rfl⟩) hK hP hD hS hA [0, 1, 2, 3, 4, 5, 6, 7, 8, 9, 10, 11] [] ⟨rfl, rfl, rfl, rfl, rfl⟩ [0, 1, 2, 3, 4, 5, 6, 7, 8, 9, 10, 11] rfl (fun _ => rfl) [0] rfl (va_recv hK hP (ci := 0) (q0 := 0) rfl rfl) rfl hl.1 rfl (Nat.le_of_ble_eq_true rfl) rfl rfl ⟨Nat.le_of_ble_eq_true rfl, Nat.le_of_ble_eq_true rfl⟩ dX0_cellNumber_94 (fun r u H locs hw hP hD hS => ?_)
    exact fin r () H locs 0 0 97 ls dX0_cellNumber_97 hw hP hD hS (Nat.le_of_ble_eq_true rfl) (Nat.le_of_ble_eq_true rfl)
abbrev rm_X0_becomeLike : Room := { frames := 1, cells := 0, slots := 0, locals := 60 }
set_option maxHeartbeats 4000000 in
set_option maxRecDepth 100000 in
theorem c_X0_become (l : Launch) (D : va_G) (cI : ClassId) (h : Nat) (ad : Nat → Nat) (hei wat dam wea dra peo rai : Nat → Int32) (hou bro drd lef : Int32) (cre gai see fou : Nat → Int32) (h2 : Nat) (ad2 : Nat → Nat) (hei2 wat2 dam2 wea2 dra2 peo2 rai2 : Nat → Int32) (hou2 bro2 drd2 lef2 : Int32) (cre2 gai2 see2 fou2 : Nat → Int32) : ct_v (S := Unit) l D yX0_becomeLike wsX0_becomeLike rm_X0_becomeLike [.ref h, .ref h2] ((pW h ad cI hei wat dam wea dra peo rai hou bro drd lef cre gai see fou) ++ (pW h2 ad2 cI hei2 wat2 dam2 wea2 dra2 peo2 rai2 hou2 bro2 drd2 lef2 cre2 gai2 see2 fou2)) [(cI, .int)] (fun _ => True) (fun _ => ((pW h ad cI hei2 wat2 dam2 wea2 dra2 peo2 rai2 hou2 bro2 drd2 lef2 cre gai see fou) ++ (pW h2 ad2 cI hei2 wat2 dam2 wea2 dra2 peo2 rai2 hou2 bro2 drd2 lef2 cre2 gai2 see2 fou2))) := by
  refine ct_ofv (cc := cX0_becomeLike) (maxL := 2) (by decide) rfl (Nat.le_of_ble_eq_true rfl) ?_
  intro p e s m args below meth c A Q hx hb hml hown hts hin hA hK H locs hP hD hS fin ls hl
  have hown : s.vm.findClass RX0 = some m.cls := hown
  have hl : lv_has ls 2 [(0, .ref h), (1, .ref h2)] := hl
  refine lv_aload_n hx hb dX0_becomeLike_0 rfl (lv_at hl 1 rfl) ?_
  refine va_get (D := D) (ci := 0) (v := .ref (ad2 0)) (C := RX0) (T := TX0) (N := 15) hx hb hts (fun _ h9 => (List.mem_cons_of_mem _ (List.mem_append_right _ h9))) hown hK hP 12 rfl rfl 0 (by decide) (hts (Cond.fieldLink RX0 9 "FloodGrid$Plain" "height" "[I") (List.mem_of_getElem? (i := 1) rfl)) (fun _ h9 => h9) rfl dX0_becomeLike_1 ?_
  refine lv_iconst (v := 0) hx hb dX0_becomeLike_4 (by decide) ?_
  refine lv_aload_n hx hb dX0_becomeLike_5 rfl (lv_at hl 0 rfl) ?_
  refine va_get (D := D) (ci := 0) (v := .ref (ad 0)) (C := RX0) (T := TX0) (N := 15) hx hb hts (fun _ h9 => (List.mem_cons_of_mem _ (List.mem_append_right _ h9))) hown hK hP 0 rfl rfl 0 (by decide) (hts (Cond.fieldLink RX0 9 "FloodGrid$Plain" "height" "[I") (List.mem_of_getElem? (i := 1) rfl)) (fun _ h9 => h9) rfl dX0_becomeLike_6 ?_
  refine lv_iconst (v := 0) hx hb dX0_becomeLike_9 (by decide) ?_
  refine lv_bipush (v := 64) hx hb dX0_becomeLike_10 (by decide) ?_
  refine ct_copy (ws1 := ((pW h ad cI hei2 wat dam wea dra peo rai hou bro drd lef cre gai see fou) ++ (pW h2 ad2 cI hei2 wat2 dam2 wea2 dra2 peo2 rai2 hou2 bro2 drd2 lef2 cre2 gai2 see2 fou2))) hx hb (hml.trans hl.1.symm) hown (hts (Cond.methodLink RX0 51 arraycopyName) (List.mem_of_getElem? (i := 2) rfl)) (hts (Cond.native arraycopyName) (List.mem_of_getElem? (i := 3) rfl)) (hts (Cond.static arraycopyName) (List.mem_of_getElem? (i := 4) rfl)) (hts (Cond.initialized "java/lang/System") (List.mem_of_getElem? (i := 5) rfl)) hK hP hD hS 13 1 0 rfl rfl rfl (n := 64) rfl (by decide) (Nat.le_of_ble_eq_true rfl) (Nat.le_of_ble_eq_true (by decide +kernel)) rfl dX0_becomeLike_12 (fun H locs hP hD hS => ?_)
  refine lv_aload_n hx hb dX0_becomeLike_15 rfl (lv_at hl 1 rfl) ?_
  refine va_get (D := D) (ci := 0) (v := .ref (ad2 1)) (C := RX0) (T := TX0) (N := 15) hx hb hts (fun _ h9 => (List.mem_cons_of_mem _ (List.mem_append_right _ h9))) hown hK hP 12 rfl rfl 1 (by decide) (hts (Cond.fieldLink RX0 15 "FloodGrid$Plain" "water" "[I") (List.mem_of_getElem? (i := 6) rfl)) (fun _ h9 => h9) rfl dX0_becomeLike_16 ?_
  refine lv_iconst (v := 0) hx hb dX0_becomeLike_19 (by decide) ?_
  refine lv_aload_n hx hb dX0_becomeLike_20 rfl (lv_at hl 0 rfl) ?_
  refine va_get (D := D) (ci := 0) (v := .ref (ad 1)) (C := RX0) (T := TX0) (N := 15) hx hb hts (fun _ h9 => (List.mem_cons_of_mem _ (List.mem_append_right _ h9))) hown hK hP 0 rfl rfl 1 (by decide) (hts (Cond.fieldLink RX0 15 "FloodGrid$Plain" "water" "[I") (List.mem_of_getElem? (i := 6) rfl)) (fun _ h9 => h9) rfl dX0_becomeLike_21 ?_
  refine lv_iconst (v := 0) hx hb dX0_becomeLike_24 (by decide) ?_
  refine lv_bipush (v := 64) hx hb dX0_becomeLike_25 (by decide) ?_
  refine ct_copy (ws1 := ((pW h ad cI hei2 wat2 dam wea dra peo rai hou bro drd lef cre gai see fou) ++ (pW h2 ad2 cI hei2 wat2 dam2 wea2 dra2 peo2 rai2 hou2 bro2 drd2 lef2 cre2 gai2 see2 fou2))) hx hb (hml.trans hl.1.symm) hown (hts (Cond.methodLink RX0 51 arraycopyName) (List.mem_of_getElem? (i := 2) rfl)) (hts (Cond.native arraycopyName) (List.mem_of_getElem? (i := 3) rfl)) (hts (Cond.static arraycopyName) (List.mem_of_getElem? (i := 4) rfl)) (hts (Cond.initialized "java/lang/System") (List.mem_of_getElem? (i := 5) rfl)) hK hP hD hS 14 2 0 rfl rfl rfl (n := 64) rfl (by decide) (Nat.le_of_ble_eq_true rfl) (Nat.le_of_ble_eq_true (by decide +kernel)) rfl dX0_becomeLike_27 (fun H locs hP hD hS => ?_)
  refine lv_aload_n hx hb dX0_becomeLike_30 rfl (lv_at hl 1 rfl) ?_
  refine va_get (D := D) (ci := 0) (v := .ref (ad2 2)) (C := RX0) (T := TX0) (N := 15) hx hb hts (fun _ h9 => (List.mem_cons_of_mem _ (List.mem_append_right _ h9))) hown hK hP 12 rfl rfl 2 (by decide) (hts (Cond.fieldLink RX0 18 "FloodGrid$Plain" "dam" "[I") (List.mem_of_getElem? (i := 7) rfl)) (fun _ h9 => h9) rfl dX0_becomeLike_31 ?_
  refine lv_iconst (v := 0) hx hb dX0_becomeLike_34 (by decide) ?_
  refine lv_aload_n hx hb dX0_becomeLike_35 rfl (lv_at hl 0 rfl) ?_
  refine va_get (D := D) (ci := 0) (v := .ref (ad 2)) (C := RX0) (T := TX0) (N := 15) hx hb hts (fun _ h9 => (List.mem_cons_of_mem _ (List.mem_append_right _ h9))) hown hK hP 0 rfl rfl 2 (by decide) (hts (Cond.fieldLink RX0 18 "FloodGrid$Plain" "dam" "[I") (List.mem_of_getElem? (i := 7) rfl)) (fun _ h9 => h9) rfl dX0_becomeLike_36 ?_
  refine lv_iconst (v := 0) hx hb dX0_becomeLike_39 (by decide) ?_
  refine lv_bipush (v := 64) hx hb dX0_becomeLike_40 (by decide) ?_
  refine ct_copy (ws1 := ((pW h ad cI hei2 wat2 dam2 wea dra peo rai hou bro drd lef cre gai see fou) ++ (pW h2 ad2 cI hei2 wat2 dam2 wea2 dra2 peo2 rai2 hou2 bro2 drd2 lef2 cre2 gai2 see2 fou2))) hx hb (hml.trans hl.1.symm) hown (hts (Cond.methodLink RX0 51 arraycopyName) (List.mem_of_getElem? (i := 2) rfl)) (hts (Cond.native arraycopyName) (List.mem_of_getElem? (i := 3) rfl)) (hts (Cond.static arraycopyName) (List.mem_of_getElem? (i := 4) rfl)) (hts (Cond.initialized "java/lang/System") (List.mem_of_getElem? (i := 5) rfl)) hK hP hD hS 15 3 0 rfl rfl rfl (n := 64) rfl (by decide) (Nat.le_of_ble_eq_true rfl) (Nat.le_of_ble_eq_true (by decide +kernel)) rfl dX0_becomeLike_42 (fun H locs hP hD hS => ?_)
  refine lv_aload_n hx hb dX0_becomeLike_45 rfl (lv_at hl 1 rfl) ?_
  refine va_get (D := D) (ci := 0) (v := .ref (ad2 3)) (C := RX0) (T := TX0) (N := 15) hx hb hts (fun _ h9 => (List.mem_cons_of_mem _ (List.mem_append_right _ h9))) hown hK hP 12 rfl rfl 3 (by decide) (hts (Cond.fieldLink RX0 21 "FloodGrid$Plain" "wear" "[I") (List.mem_of_getElem? (i := 8) rfl)) (fun _ h9 => h9) rfl dX0_becomeLike_46 ?_
  refine lv_iconst (v := 0) hx hb dX0_becomeLike_49 (by decide) ?_
  refine lv_aload_n hx hb dX0_becomeLike_50 rfl (lv_at hl 0 rfl) ?_
  refine va_get (D := D) (ci := 0) (v := .ref (ad 3)) (C := RX0) (T := TX0) (N := 15) hx hb hts (fun _ h9 => (List.mem_cons_of_mem _ (List.mem_append_right _ h9))) hown hK hP 0 rfl rfl 3 (by decide) (hts (Cond.fieldLink RX0 21 "FloodGrid$Plain" "wear" "[I") (List.mem_of_getElem? (i := 8) rfl)) (fun _ h9 => h9) rfl dX0_becomeLike_51 ?_
  refine lv_iconst (v := 0) hx hb dX0_becomeLike_54 (by decide) ?_
  refine lv_bipush (v := 64) hx hb dX0_becomeLike_55 (by decide) ?_
  refine ct_copy (ws1 := ((pW h ad cI hei2 wat2 dam2 wea2 dra peo rai hou bro drd lef cre gai see fou) ++ (pW h2 ad2 cI hei2 wat2 dam2 wea2 dra2 peo2 rai2 hou2 bro2 drd2 lef2 cre2 gai2 see2 fou2))) hx hb (hml.trans hl.1.symm) hown (hts (Cond.methodLink RX0 51 arraycopyName) (List.mem_of_getElem? (i := 2) rfl)) (hts (Cond.native arraycopyName) (List.mem_of_getElem? (i := 3) rfl)) (hts (Cond.static arraycopyName) (List.mem_of_getElem? (i := 4) rfl)) (hts (Cond.initialized "java/lang/System") (List.mem_of_getElem? (i := 5) rfl)) hK hP hD hS 16 4 0 rfl rfl rfl (n := 64) rfl (by decide) (Nat.le_of_ble_eq_true rfl) (Nat.le_of_ble_eq_true (by decide +kernel)) rfl dX0_becomeLike_57 (fun H locs hP hD hS => ?_)
  refine lv_aload_n hx hb dX0_becomeLike_60 rfl (lv_at hl 1 rfl) ?_
  refine va_get (D := D) (ci := 0) (v := .ref (ad2 4)) (C := RX0) (T := TX0) (N := 15) hx hb hts (fun _ h9 => (List.mem_cons_of_mem _ (List.mem_append_right _ h9))) hown hK hP 12 rfl rfl 4 (by decide) (hts (Cond.fieldLink RX0 24 "FloodGrid$Plain" "drain" "[I") (List.mem_of_getElem? (i := 9) rfl)) (fun _ h9 => h9) rfl dX0_becomeLike_61 ?_
  refine lv_iconst (v := 0) hx hb dX0_becomeLike_64 (by decide) ?_
  refine lv_aload_n hx hb dX0_becomeLike_65 rfl (lv_at hl 0 rfl) ?_
  refine va_get (D := D) (ci := 0) (v := .ref (ad 4)) (C := RX0) (T := TX0) (N := 15) hx hb hts (fun _ h9 => (List.mem_cons_of_mem _ (List.mem_append_right _ h9))) hown hK hP 0 rfl rfl 4 (by decide) (hts (Cond.fieldLink RX0 24 "FloodGrid$Plain" "drain" "[I") (List.mem_of_getElem? (i := 9) rfl)) (fun _ h9 => h9) rfl dX0_becomeLike_66 ?_
  refine lv_iconst (v := 0) hx hb dX0_becomeLike_69 (by decide) ?_
  refine lv_bipush (v := 64) hx hb dX0_becomeLike_70 (by decide) ?_
  refine ct_copy (ws1 := ((pW h ad cI hei2 wat2 dam2 wea2 dra2 peo rai hou bro drd lef cre gai see fou) ++ (pW h2 ad2 cI hei2 wat2 dam2 wea2 dra2 peo2 rai2 hou2 bro2 drd2 lef2 cre2 gai2 see2 fou2))) hx hb (hml.trans hl.1.symm) hown (hts (Cond.methodLink RX0 51 arraycopyName) (List.mem_of_getElem? (i := 2) rfl)) (hts (Cond.native arraycopyName) (List.mem_of_getElem? (i := 3) rfl)) (hts (Cond.static arraycopyName) (List.mem_of_getElem? (i := 4) rfl)) (hts (Cond.initialized "java/lang/System") (List.mem_of_getElem? (i := 5) rfl)) hK hP hD hS 17 5 0 rfl rfl rfl (n := 64) rfl (by decide) (Nat.le_of_ble_eq_true rfl) (Nat.le_of_ble_eq_true (by decide +kernel)) rfl dX0_becomeLike_72 (fun H locs hP hD hS => ?_)
  refine lv_aload_n hx hb dX0_becomeLike_75 rfl (lv_at hl 1 rfl) ?_
  refine va_get (D := D) (ci := 0) (v := .ref (ad2 5)) (C := RX0) (T := TX0) (N := 15) hx hb hts (fun _ h9 => (List.mem_cons_of_mem _ (List.mem_append_right _ h9))) hown hK hP 12 rfl rfl 5 (by decide) (hts (Cond.fieldLink RX0 27 "FloodGrid$Plain" "people" "[I") (List.mem_of_getElem? (i := 10) rfl)) (fun _ h9 => h9) rfl dX0_becomeLike_76 ?_
  refine lv_iconst (v := 0) hx hb dX0_becomeLike_79 (by decide) ?_
  refine lv_aload_n hx hb dX0_becomeLike_80 rfl (lv_at hl 0 rfl) ?_
  refine va_get (D := D) (ci := 0) (v := .ref (ad 5)) (C := RX0) (T := TX0) (N := 15) hx hb hts (fun _ h9 => (List.mem_cons_of_mem _ (List.mem_append_right _ h9))) hown hK hP 0 rfl rfl 5 (by decide) (hts (Cond.fieldLink RX0 27 "FloodGrid$Plain" "people" "[I") (List.mem_of_getElem? (i := 10) rfl)) (fun _ h9 => h9) rfl dX0_becomeLike_81 ?_
  refine lv_iconst (v := 0) hx hb dX0_becomeLike_84 (by decide) ?_
  refine lv_bipush (v := 64) hx hb dX0_becomeLike_85 (by decide) ?_
  refine ct_copy (ws1 := ((pW h ad cI hei2 wat2 dam2 wea2 dra2 peo2 rai hou bro drd lef cre gai see fou) ++ (pW h2 ad2 cI hei2 wat2 dam2 wea2 dra2 peo2 rai2 hou2 bro2 drd2 lef2 cre2 gai2 see2 fou2))) hx hb (hml.trans hl.1.symm) hown (hts (Cond.methodLink RX0 51 arraycopyName) (List.mem_of_getElem? (i := 2) rfl)) (hts (Cond.native arraycopyName) (List.mem_of_getElem? (i := 3) rfl)) (hts (Cond.static arraycopyName) (List.mem_of_getElem? (i := 4) rfl)) (hts (Cond.initialized "java/lang/System") (List.mem_of_getElem? (i := 5) rfl)) hK hP hD hS 18 6 0 rfl rfl rfl (n := 64) rfl (by decide) (Nat.le_of_ble_eq_true rfl) (Nat.le_of_ble_eq_true (by decide +kernel)) rfl dX0_becomeLike_87 (fun H locs hP hD hS => ?_)
  refine lv_aload_n hx hb dX0_becomeLike_90 rfl (lv_at hl 1 rfl) ?_
  refine va_get (D := D) (ci := 0) (v := .ref (ad2 6)) (C := RX0) (T := TX0) (N := 15) hx hb hts (fun _ h9 => (List.mem_cons_of_mem _ (List.mem_append_right _ h9))) hown hK hP 12 rfl rfl 6 (by decide) (hts (Cond.fieldLink RX0 30 "FloodGrid$Plain" "rain" "[I") (List.mem_of_getElem? (i := 11) rfl)) (fun _ h9 => h9) rfl dX0_becomeLike_91 ?_
  refine lv_iconst (v := 0) hx hb dX0_becomeLike_94 (by decide) ?_
  refine lv_aload_n hx hb dX0_becomeLike_95 rfl (lv_at hl 0 rfl) ?_
  refine va_get (D := D) (ci := 0) (v := .ref (ad 6)) (C := RX0) (T := TX0) (N := 15) hx hb hts (fun _ h9 => (List.mem_cons_of_mem _ (List.mem_append_right _ h9))) hown hK hP 0 rfl rfl 6 (by decide) (hts (Cond.fieldLink RX0 30 "FloodGrid$Plain" "rain" "[I") (List.mem_of_getElem? (i := 11) rfl)) (fun _ h9 => h9) rfl dX0_becomeLike_96 ?_
  refine lv_iconst (v := 0) hx hb dX0_becomeLike_99 (by decide) ?_
  refine lv_bipush (v := 12) hx hb dX0_becomeLike_100 (by decide) ?_
  refine ct_copy (ws1 := ((pW h ad cI hei2 wat2 dam2 wea2 dra2 peo2 rai2 hou bro drd lef cre gai see fou) ++ (pW h2 ad2 cI hei2 wat2 dam2 wea2 dra2 peo2 rai2 hou2 bro2 drd2 lef2 cre2 gai2 see2 fou2))) hx hb (hml.trans hl.1.symm) hown (hts (Cond.methodLink RX0 51 arraycopyName) (List.mem_of_getElem? (i := 2) rfl)) (hts (Cond.native arraycopyName) (List.mem_of_getElem? (i := 3) rfl)) (hts (Cond.static arraycopyName) (List.mem_of_getElem? (i := 4) rfl)) (hts (Cond.initialized "java/lang/System") (List.mem_of_getElem? (i := 5) rfl)) hK hP hD hS 19 7 0 rfl rfl rfl (n := 12) rfl (by decide) (Nat.le_of_ble_eq_true rfl) (Nat.le_of_ble_eq_true (by decide +kernel)) rfl dX0_becomeLike_102 (fun H locs hP hD hS => ?_)
  refine lv_aload_n hx hb dX0_becomeLike_105 rfl (lv_at hl 0 rfl) ?_
  refine lv_aload_n hx hb dX0_becomeLike_106 rfl (lv_at hl 1 rfl) ?_
  refine va_get (D := D) (ci := 0) (v := .int hou2) (C := RX0) (T := TX0) (N := 15) hx hb hts (fun _ h9 => (List.mem_cons_of_mem _ (List.mem_append_right _ h9))) hown hK hP 12 rfl rfl 7 (by decide) (hts (Cond.fieldLink RX0 57 "FloodGrid$Plain" "hour" "I") (List.mem_of_getElem? (i := 12) rfl)) (fun _ h9 => h9) rfl dX0_becomeLike_107 ?_
  refine va_put (D := D) (ci := 0) (v := .int hou2) (ty := .int) (C := RX0) (T := TX0) (N := 15) hx hb hts (fun _ h9 => (List.mem_cons_of_mem _ (List.mem_append_right _ h9))) tyX0 tyX0_ok nmX0 hown hK hP hD hS 0 rfl rfl 7 (by decide) (hts (Cond.fieldLink RX0 57 "FloodGrid$Plain" "hour" "I") (List.mem_of_getElem? (i := 12) rfl)) (fun _ h9 => h9) rfl (by decide +kernel) rfl rfl (Nat.le_of_ble_eq_true rfl) dX0_becomeLike_110 (fun H locs hP hD hS => ?_)
  have hP : va_P D vwCl ((pW h ad cI hei2 wat2 dam2 wea2 dra2 peo2 rai2 hou2 bro drd lef cre gai see fou) ++ (pW h2 ad2 cI hei2 wat2 dam2 wea2 dra2 peo2 rai2 hou2 bro2 drd2 lef2 cre2 gai2 see2 fou2)) H := hP
  have hD : va_D A ((pW h ad cI hei2 wat2 dam2 wea2 dra2 peo2 rai2 hou2 bro drd lef cre gai see fou) ++ (pW h2 ad2 cI hei2 wat2 dam2 wea2 dra2 peo2 rai2 hou2 bro2 drd2 lef2 cre2 gai2 see2 fou2)) := hD
  refine lv_aload_n hx hb dX0_becomeLike_113 rfl (lv_at hl 0 rfl) ?_
  refine lv_aload_n hx hb dX0_becomeLike_114 rfl (lv_at hl 1 rfl) ?_
  refine va_get (D := D) (ci := 0) (v := .int bro2) (C := RX0) (T := TX0) (N := 15) hx hb hts (fun _ h9 => (List.mem_cons_of_mem _ (List.mem_append_right _ h9))) hown hK hP 12 rfl rfl 8 (by decide) (hts (Cond.fieldLink RX0 61 "FloodGrid$Plain" "broken" "I") (List.mem_of_getElem? (i := 13) rfl)) (fun _ h9 => h9) rfl dX0_becomeLike_115 ?_
  refine va_put (D := D) (ci := 0) (v := .int bro2) (ty := .int) (C := RX0) (T := TX0) (N := 15) hx hb hts (fun _ h9 => (List.mem_cons_of_mem _ (List.mem_append_right _ h9))) tyX0 tyX0_ok nmX0 hown hK hP hD hS 0 rfl rfl 8 (by decide) (hts (Cond.fieldLink RX0 61 "FloodGrid$Plain" "broken" "I") (List.mem_of_getElem? (i := 13) rfl)) (fun _ h9 => h9) rfl (by decide +kernel) rfl rfl (Nat.le_of_ble_eq_true rfl) dX0_becomeLike_118 (fun H locs hP hD hS => ?_)
  have hP : va_P D vwCl ((pW h ad cI hei2 wat2 dam2 wea2 dra2 peo2 rai2 hou2 bro2 drd lef cre gai see fou) ++ (pW h2 ad2 cI hei2 wat2 dam2 wea2 dra2 peo2 rai2 hou2 bro2 drd2 lef2 cre2 gai2 see2 fou2)) H := hP
  have hD : va_D A ((pW h ad cI hei2 wat2 dam2 wea2 dra2 peo2 rai2 hou2 bro2 drd lef cre gai see fou) ++ (pW h2 ad2 cI hei2 wat2 dam2 wea2 dra2 peo2 rai2 hou2 bro2 drd2 lef2 cre2 gai2 see2 fou2)) := hD
  refine lv_aload_n hx hb dX0_becomeLike_121 rfl (lv_at hl 0 rfl) ?_
  refine lv_aload_n hx hb dX0_becomeLike_122 rfl (lv_at hl 1 rfl) ?_
  refine va_get (D := D) (ci := 0) (v := .int drd2) (C := RX0) (T := TX0) (N := 15) hx hb hts (fun _ h9 => (List.mem_cons_of_mem _ (List.mem_append_right _ h9))) hown hK hP 12 rfl rfl 9 (by decide) (hts (Cond.fieldLink RX0 64 "FloodGrid$Plain" "drained" "I") (List.mem_of_getElem? (i := 14) rfl)) (fun _ h9 => h9) rfl dX0_becomeLike_123 ?_
  refine va_put (D := D) (ci := 0) (v := .int drd2) (ty := .int) (C := RX0) (T := TX0) (N := 15) hx hb hts (fun _ h9 => (List.mem_cons_of_mem _ (List.mem_append_right _ h9))) tyX0 tyX0_ok nmX0 hown hK hP hD hS 0 rfl rfl 9 (by decide) (hts (Cond.fieldLink RX0 64 "FloodGrid$Plain" "drained" "I") (List.mem_of_getElem? (i := 14) rfl)) (fun _ h9 => h9) rfl (by decide +kernel) rfl rfl (Nat.le_of_ble_eq_true rfl) dX0_becomeLike_126 (fun H locs hP hD hS => ?_)
  have hP : va_P D vwCl ((pW h ad cI hei2 wat2 dam2 wea2 dra2 peo2 rai2 hou2 bro2 drd2 lef cre gai see fou) ++ (pW h2 ad2 cI hei2 wat2 dam2 wea2 dra2 peo2 rai2 hou2 bro2 drd2 lef2 cre2 gai2 see2 fou2)) H := hP
  have hD : va_D A ((pW h ad cI hei2 wat2 dam2 wea2 dra2 peo2 rai2 hou2 bro2 drd2 lef cre gai see fou) ++ (pW h2 ad2 cI hei2 wat2 dam2 wea2 dra2 peo2 rai2 hou2 bro2 drd2 lef2 cre2 gai2 see2 fou2)) := hD
  refine lv_aload_n hx hb dX0_becomeLike_129 rfl (lv_at hl 0 rfl) ?_
  refine lv_aload_n hx hb dX0_becomeLike_130 rfl (lv_at hl 1 rfl) ?_
  refine va_get (D := D) (ci := 0) (v := .int lef2) (C := RX0) (T := TX0) (N := 15) hx hb hts (fun _ h9 => (List.mem_cons_of_mem _ (List.mem_append_right _ h9))) hown hK hP 12 rfl rfl 10 (by decide) (hts (Cond.fieldLink RX0 67 "FloodGrid$Plain" "left" "I") (List.mem_of_getElem? (i := 15) rfl)) (fun _ h9 => h9) rfl dX0_becomeLike_131 ?_
  refine va_put (D := D) (ci := 0) (v := .int lef2) (ty := .int) (C := RX0) (T := TX0) (N := 15) hx hb hts (fun _ h9 => (List.mem_cons_of_mem _ (List.mem_append_right _ h9))) tyX0 tyX0_ok nmX0 hown hK hP hD hS 0 rfl rfl 10 (by decide) (hts (Cond.fieldLink RX0 67 "FloodGrid$Plain" "left" "I") (List.mem_of_getElem? (i := 15) rfl)) (fun _ h9 => h9) rfl (by decide +kernel) rfl rfl (Nat.le_of_ble_eq_true rfl) dX0_becomeLike_134 (fun H locs hP hD hS => ?_)
  have hP : va_P D vwCl ((pW h ad cI hei2 wat2 dam2 wea2 dra2 peo2 rai2 hou2 bro2 drd2 lef2 cre gai see fou) ++ (pW h2 ad2 cI hei2 wat2 dam2 wea2 dra2 peo2 rai2 hou2 bro2 drd2 lef2 cre2 gai2 see2 fou2)) H := hP
  have hD : va_D A ((pW h ad cI hei2 wat2 dam2 wea2 dra2 peo2 rai2 hou2 bro2 drd2 lef2 cre gai see fou) ++ (pW h2 ad2 cI hei2 wat2 dam2 wea2 dra2 peo2 rai2 hou2 bro2 drd2 lef2 cre2 gai2 see2 fou2)) := hD
  exact fin () H locs 0 0 137 ls dX0_becomeLike_137 trivial hP hD hS (Nat.le_of_ble_eq_true rfl) (Nat.le_of_ble_eq_true rfl)
abbrev rm_X0_init : Room := { frames := 1, cells := 11, slots := 652, locals := 23 }
set_option maxHeartbeats 4000000 in
set_option maxRecDepth 100000 in
theorem c_X0_init (l : Launch) (D : va_G) (cI : ClassId) (h : Nat) : ct_v (S := Nat → Nat) l D yX0_init wsX0_init rm_X0_init [.ref h] ([(h, .inr (0, [.null, .null, .null, .null, .null, .null, .null, .int 0, .int 0, .int 0, .int 0, .null, .null, .null, .null]))]) [(cI, .int)] (fun _ => True) (fun u => pW h u cI (fun _ => 10) (fun _ => 0) (fun _ => 0) (fun _ => 0) (fun _ => 0) (fun _ => 0) (fun _ => 0) 0 0 0 0 (fun _ => 0) (fun _ => 0) (fun _ => 0) (fun _ => 0)) := by
  refine ct_ofv (cc := cX0_init) (maxL := 1) (by decide) rfl (Nat.le_of_ble_eq_true rfl) ?_
  intro p e s m args below meth c A Q hx hb hml hown hts hin hA hK H locs hP hD hS fin ls hl
  have hown : s.vm.findClass RX0 = some m.cls := hown
  have hl : lv_has ls 1 [(0, .ref h)] := hl
  refine lv_aload_n hx hb dX0_init_0 rfl (lv_at hl 0 rfl) ?_
  refine W.objInit hx hb hown (hts (Cond.methodLink RX0 3 objectInit) (List.mem_of_getElem? (i := 1) rfl)) (hts (Cond.instanceMethod objectInit) (List.mem_of_getElem? (i := 2) rfl)) (hts (Cond.code objectInit ⟨#[0xb1]⟩ 1 none) (List.mem_of_getElem? (i := 3) rfl)) rfl (by rw [hml]; exact hl.1) rfl dX0_init_1 (Nat.le_of_ble_eq_true rfl) (Nat.le_of_ble_eq_true rfl) ?_
  refine W.eq (g2 := F0 m 4 ls []) rfl ?_
  refine lv_aload_n hx hb dX0_init_4 rfl (lv_at hl 0 rfl) ?_
  refine lv_bipush (v := 64) hx hb dX0_init_5 (by decide) ?_
  refine ct_newa (cells1 := 1) (slots1 := 64) hx hb (hts (Cond.arrayClass .int) (List.mem_of_getElem? (i := 4) rfl)) 0 rfl hK hP hD hS hA 64 rfl (by decide) rfl rfl (Nat.le_of_ble_eq_true rfl) (Nat.le_of_ble_eq_true rfl) dX0_init_7 (fun q0 H hP hD hS => ?_)
  have hP : va_P D vwCl ([(h, .inr (0, [.null, .null, .null, .null, .null, .null, .null, .int 0, .int 0, .int 0, .int 0, .null, .null, .null, .null])), (q0, .inl (cI, 64, .inl (fun _ => 0)))]) H := hP
  have hD : va_D A ([(h, .inr (0, [.null, .null, .null, .null, .null, .null, .null, .int 0, .int 0, .int 0, .int 0, .null, .null, .null, .null])), (q0, .inl (cI, 64, .inl (fun _ => 0)))]) := hD
  refine va_putF (D := D) (ci := 0) (v := .ref q0) (ty := .array .int) (C := RX0) (T := TX0) (N := 15) hx hb hts (fun _ h9 => (List.mem_cons_of_mem _ (List.mem_append_right _ h9))) tyX0 tyX0_ok nmX0 hown hK hP hD hS 0 rfl rfl 0 (by decide) (hts (Cond.fieldLink RX0 9 "FloodGrid$Plain" "height" "[I") (List.mem_of_getElem? (i := 5) rfl)) (fun _ h9 => h9) rfl hin rfl (by decide +kernel) rfl rfl (Nat.le_of_ble_eq_true rfl) dX0_init_9 (fun H locs hP hD hS => ?_)
  have hP : va_P D vwCl ([(h, .inr (0, [.ref q0, .null, .null, .null, .null, .null, .null, .int 0, .int 0, .int 0, .int 0, .null, .null, .null, .null])), (q0, .inl (cI, 64, .inl (fun _ => 0)))]) H := hP
  have hD : va_D A ([(h, .inr (0, [.ref q0, .null, .null, .null, .null, .null, .null, .int 0, .int 0, .int 0, .int 0, .null, .null, .null, .null])), (q0, .inl (cI, 64, .inl (fun _ => 0)))]) := hD
  refine lv_aload_n hx hb dX0_init_12 rfl (lv_at hl 0 rfl) ?_
  refine lv_bipush (v := 64) hx hb dX0_init_13 (by decide) ?_
  refine ct_newa (cells1 := 2) (slots1 := 128) hx hb (hts (Cond.arrayClass .int) (List.mem_of_getElem? (i := 4) rfl)) 0 rfl hK hP hD hS hA 64 rfl (by decide) rfl rfl (Nat.le_of_ble_eq_true rfl) (Nat.le_of_ble_eq_true rfl) dX0_init_15 (fun q1 H hP hD hS => ?_)
  have hP : va_P D vwCl ([(h, .inr (0, [.ref q0, .null, .null, .null, .null, .null, .null, .int 0, .int 0, .int 0, .int 0, .null, .null, .null, .null])), (q0, .inl (cI, 64, .inl (fun _ => 0))), (q1, .inl (cI, 64, .inl (fun _ => 0)))]) H := hP
  have hD : va_D A ([(h, .inr (0, [.ref q0, .null, .null, .null, .null, .null, .null, .int 0, .int 0, .int 0, .int 0, .null, .null, .null, .null])), (q0, .inl (cI, 64, .inl (fun _ => 0))), (q1, .inl (cI, 64, .inl (fun _ => 0)))]) := hD
  refine va_putF (D := D) (ci := 0) (v := .ref q1) (ty := .array .int) (C := RX0) (T := TX0) (N := 15) hx hb hts (fun _ h9 => (List.mem_cons_of_mem _ (List.mem_append_right _ h9))) tyX0 tyX0_ok nmX0 hown hK hP hD hS 0 rfl rfl 1 (by decide) (hts (Cond.fieldLink RX0 15 "FloodGrid$Plain" "water" "[I") (List.mem_of_getElem? (i := 6) rfl)) (fun _ h9 => h9) rfl hin rfl (by decide +kernel) rfl rfl (Nat.le_of_ble_eq_true rfl) dX0_init_17 (fun H locs hP hD hS => ?_)
  have hP : va_P D vwCl ([(h, .inr (0, [.ref q0, .ref q1, .null, .null, .null, .null, .null, .int 0, .int 0, .int 0, .int 0, .null, .null, .null, .null])), (q0, .inl (cI, 64, .inl (fun _ => 0))), (q1, .inl (cI, 64, .inl (fun _ => 0)))]) H := hP
  have hD : va_D A ([(h, .inr (0, [.ref q0, .ref q1, .null, .null, .null, .null, .null, .int 0, .int 0, .int 0, .int 0, .null, .null, .null, .null])), (q0, .inl (cI, 64, .inl (fun _ => 0))), (q1, .inl (cI, 64, .inl (fun _ => 0)))]) := hD
  refine lv_aload_n hx hb dX0_init_20 rfl (lv_at hl 0 rfl) ?_
  refine lv_bipush (v := 64) hx hb dX0_init_21 (by decide) ?_
  refine ct_newa (cells1 := 3) (slots1 := 192) hx hb (hts (Cond.arrayClass .int) (List.mem_of_getElem? (i := 4) rfl)) 0 rfl hK hP hD hS hA 64 rfl (by decide) rfl rfl (Nat.le_of_ble_eq_true rfl) (Nat.le_of_ble_eq_true rfl) dX0_init_23 (fun q2 H hP hD hS => ?_)
  have hP : va_P D vwCl ([(h, .inr (0, [.ref q0, .ref q1, .null, .null, .null, .null, .null, .int 0, .int 0, .int 0, .int 0, .null, .null, .null, .null])), (q0, .inl (cI, 64, .inl (fun _ => 0))), (q1, .inl (cI, 64, .inl (fun _ => 0))), (q2, .inl (cI, 64, .inl (fun _ => 0)))]) H := hP
  have hD : va_D A ([(h, .inr (0, [.ref q0, .ref q1, .null, .null, .null, .null, .null, .int 0, .int 0, .int 0, .int 0, .null, .null, .null, .null])), (q0, .inl (cI, 64, .inl (fun _ => 0))), (q1, .inl (cI, 64, .inl (fun _ => 0))), (q2, .inl (cI, 64, .inl (fun _ => 0)))]) := hD
  refine va_putF (D := D) (ci := 0) (v := .ref q2) (ty := .array .int) (C := RX0) (T := TX0) (N := 15) hx hb hts (fun _ h9 => (List.mem_cons_of_mem _ (List.mem_append_right _ h9))) tyX0 tyX0_ok nmX0 hown hK hP hD hS 0 rfl rfl 2 (by decide) (hts (Cond.fieldLink RX0 18 "FloodGrid$Plain" "dam" "[I") (List.mem_of_getElem? (i := 7) rfl)) (fun _ h9 => h9) rfl hin rfl (by decide +kernel) rfl rfl (Nat.le_of_ble_eq_true rfl) dX0_init_25 (fun H locs hP hD hS => ?_)
  have hP : va_P D vwCl ([(h, .inr (0, [.ref q0, .ref q1, .ref q2, .null, .null, .null, .null, .int 0, .int 0, .int 0, .int 0, .null, .null, .null, .null])), (q0, .inl (cI, 64, .inl (fun _ => 0))), (q1, .inl (cI, 64, .inl (fun _ => 0))), (q2, .inl (cI, 64, .inl (fun _ => 0)))]) H := hP
  have hD : va_D A ([(h, .inr (0, [.ref q0, .ref q1, .ref q2, .null, .null, .null, .null, .int 0, .int 0, .int 0, .int 0, .null, .null, .null, .null])), (q0, .inl (cI, 64, .inl (fun _ => 0))), (q1, .inl (cI, 64, .inl (fun _ => 0))), (q2, .inl (cI, 64, .inl (fun _ => 0)))]) := hD
  refine lv_aload_n hx hb dX0_init_28 rfl (lv_at hl 0 rfl) ?_
  refine lv_bipush (v := 64) hx hb dX0_init_29 (by decide) ?_
  refine ct_newa (cells1 := 4) (slots1 := 256) hx hb (hts (Cond.arrayClass .int) (List.mem_of_getElem? (i := 4) rfl)) 0 rfl hK hP hD hS hA 64 rfl (by decide) rfl rfl (Nat.le_of_ble_eq_true rfl) (Nat.le_of_ble_eq_true rfl) dX0_init_31 (fun q3 H hP hD hS => ?_)
  have hP : va_P D vwCl ([(h, .inr (0, [.ref q0, .ref q1, .ref q2, .null, .null, .null, .null, .int 0, .int 0, .int 0, .int 0, .null, .null, .null, .null])), (q0, .inl (cI, 64, .inl (fun _ => 0))), (q1, .inl (cI, 64, .inl (fun _ => 0))), (q2, .inl (cI, 64, .inl (fun _ => 0))), (q3, .inl (cI, 64, .inl (fun _ => 0)))]) H := hP
  have hD : va_D A ([(h, .inr (0, [.ref q0, .ref q1, .ref q2, .null, .null, .null, .null, .int 0, .int 0, .int 0, .int 0, .null, .null, .null, .null])), (q0, .inl (cI, 64, .inl (fun _ => 0))), (q1, .inl (cI, 64, .inl (fun _ => 0))), (q2, .inl (cI, 64, .inl (fun _ => 0))), (q3, .inl (cI, 64, .inl (fun _ => 0)))]) := hD
  refine va_putF (D := D) (ci := 0) (v := .ref q3) (ty := .array .int) (C := RX0) (T := TX0) (N := 15) hx hb hts (fun _ h9 => (List.mem_cons_of_mem _ (List.mem_append_right _ h9))) tyX0 tyX0_ok nmX0 hown hK hP hD hS 0 rfl rfl 3 (by decide) (hts (Cond.fieldLink RX0 21 "FloodGrid$Plain" "wear" "[I") (List.mem_of_getElem? (i := 8) rfl)) (fun _ h9 => h9) rfl hin rfl (by decide +kernel) rfl rfl (Nat.le_of_ble_eq_true rfl) dX0_init_33 (fun H locs hP hD hS => ?_)
  have hP : va_P D vwCl ([(h, .inr (0, [.ref q0, .ref q1, .ref q2, .ref q3, .null, .null, .null, .int 0, .int 0, .int 0, .int 0, .null, .null, .null, .null])), (q0, .inl (cI, 64, .inl (fun _ => 0))), (q1, .inl (cI, 64, .inl (fun _ => 0))), (q2, .inl (cI, 64, .inl (fun _ => 0))), (q3, .inl (cI, 64, .inl (fun _ => 0)))]) H := hP
  have hD : va_D A ([(h, .inr (0, [.ref q0, .ref q1, .ref q2, .ref q3, .null, .null, .null, .int 0, .int 0, .int 0, .int 0, .null, .null, .null, .null])), (q0, .inl (cI, 64, .inl (fun _ => 0))), (q1, .inl (cI, 64, .inl (fun _ => 0))), (q2, .inl (cI, 64, .inl (fun _ => 0))), (q3, .inl (cI, 64, .inl (fun _ => 0)))]) := hD
  refine lv_aload_n hx hb dX0_init_36 rfl (lv_at hl 0 rfl) ?_
  refine lv_bipush (v := 64) hx hb dX0_init_37 (by decide) ?_
  refine ct_newa (cells1 := 5) (slots1 := 320) hx hb (hts (Cond.arrayClass .int) (List.mem_of_getElem? (i := 4) rfl)) 0 rfl hK hP hD hS hA 64 rfl (by decide) rfl rfl (Nat.le_of_ble_eq_true rfl) (Nat.le_of_ble_eq_true rfl) dX0_init_39 (fun q4 H hP hD hS => ?_)
  have hP : va_P D vwCl ([(h, .inr (0, [.ref q0, .ref q1, .ref q2, .ref q3, .null, .null, .null, .int 0, .int 0, .int 0, .int 0, .null, .null, .null, .null])), (q0, .inl (cI, 64, .inl (fun _ => 0))), (q1, .inl (cI, 64, .inl (fun _ => 0))), (q2, .inl (cI, 64, .inl (fun _ => 0))), (q3, .inl (cI, 64, .inl (fun _ => 0))), (q4, .inl (cI, 64, .inl (fun _ => 0)))]) H := hP
  have hD : va_D A ([(h, .inr (0, [.ref q0, .ref q1, .ref q2, .ref q3, .null, .null, .null, .int 0, .int 0, .int 0, .int 0, .null, .null, .null, .null])), (q0, .inl (cI, 64, .inl (fun _ => 0))), (q1, .inl (cI, 64, .inl (fun _ => 0))), (q2, .inl (cI, 64, .inl (fun _ => 0))), (q3, .inl (cI, 64, .inl (fun _ => 0))), (q4, .inl (cI, 64, .inl (fun _ => 0)))]) := hD
  refine va_putF (D := D) (ci := 0) (v := .ref q4) (ty := .array .int) (C := RX0) (T := TX0) (N := 15) hx hb hts (fun _ h9 => (List.mem_cons_of_mem _ (List.mem_append_right _ h9))) tyX0 tyX0_ok nmX0 hown hK hP hD hS 0 rfl rfl 4 (by decide) (hts (Cond.fieldLink RX0 24 "FloodGrid$Plain" "drain" "[I") (List.mem_of_getElem? (i := 9) rfl)) (fun _ h9 => h9) rfl hin rfl (by decide +kernel) rfl rfl (Nat.le_of_ble_eq_true rfl) dX0_init_41 (fun H locs hP hD hS => ?_)
  have hP : va_P D vwCl ([(h, .inr (0, [.ref q0, .ref q1, .ref q2, .ref q3, .ref q4, .null, .null, .int 0, .int 0, .int 0, .int 0, .null, .null, .null, .null])), (q0, .inl (cI, 64, .inl (fun _ => 0))), (q1, .inl (cI, 64, .inl (fun _ => 0))), (q2, .inl (cI, 64, .inl (fun _ => 0))), (q3, .inl (cI, 64, .inl (fun _ => 0))), (q4, .inl (cI, 64, .inl (fun _ => 0)))]) H := hP
  have hD : va_D A ([(h, .inr (0, [.ref q0, .ref q1, .ref q2, .ref q3, .ref q4, .null, .null, .int 0, .int 0, .int 0, .int 0, .null, .null, .null, .null])), (q0, .inl (cI, 64, .inl (fun _ => 0))), (q1, .inl (cI, 64, .inl (fun _ => 0))), (q2, .inl (cI, 64, .inl (fun _ => 0))), (q3, .inl (cI, 64, .inl (fun _ => 0))), (q4, .inl (cI, 64, .inl (fun _ => 0)))]) := hD
  refine lv_aload_n hx hb dX0_init_44 rfl (lv_at hl 0 rfl) ?_
  refine lv_bipush (v := 64) hx hb dX0_init_45 (by decide) ?_
  refine ct_newa (cells1 := 6) (slots1 := 384) hx hb (hts (Cond.arrayClass .int) (List.mem_of_getElem? (i := 4) rfl)) 0 rfl hK hP hD hS hA 64 rfl (by decide) rfl rfl (Nat.le_of_ble_eq_true rfl) (Nat.le_of_ble_eq_true rfl) dX0_init_47 (fun q5 H hP hD hS => ?_)
  have hP : va_P D vwCl ([(h, .inr (0, [.ref q0, .ref q1, .ref q2, .ref q3, .ref q4, .null, .null, .int 0, .int 0, .int 0, .int 0, .null, .null, .null, .null])), (q0, .inl (cI, 64, .inl (fun _ => 0))), (q1, .inl (cI, 64, .inl (fun _ => 0))), (q2, .inl (cI, 64, .inl (fun _ => 0))), (q3, .inl (cI, 64, .inl (fun _ => 0))), (q4, .inl (cI, 64, .inl (fun _ => 0))), (q5, .inl (cI, 64, .inl (fun _ => 0)))]) H := hP
  have hD : va_D A ([(h, .inr (0, [.ref q0, .ref q1, .ref q2, .ref q3, .ref q4, .null, .null, .int 0, .int 0, .int 0, .int 0, .null, .null, .null, .null])), (q0, .inl (cI, 64, .inl (fun _ => 0))), (q1, .inl (cI, 64, .inl (fun _ => 0))), (q2, .inl (cI, 64, .inl (fun _ => 0))), (q3, .inl (cI, 64, .inl (fun _ => 0))), (q4, .inl (cI, 64, .inl (fun _ => 0))), (q5, .inl (cI, 64, .inl (fun _ => 0)))]) := hD
  refine va_putF (D := D) (ci := 0) (v := .ref q5) (ty := .array .int) (C := RX0) (T := TX0) (N := 15) hx hb hts (fun _ h9 => (List.mem_cons_of_mem _ (List.mem_append_right _ h9))) tyX0 tyX0_ok nmX0 hown hK hP hD hS 0 rfl rfl 5 (by decide) (hts (Cond.fieldLink RX0 27 "FloodGrid$Plain" "people" "[I") (List.mem_of_getElem? (i := 10) rfl)) (fun _ h9 => h9) rfl hin rfl (by decide +kernel) rfl rfl (Nat.le_of_ble_eq_true rfl) dX0_init_49 (fun H locs hP hD hS => ?_)
  have hP : va_P D vwCl ([(h, .inr (0, [.ref q0, .ref q1, .ref q2, .ref q3, .ref q4, .ref q5, .null, .int 0, .int 0, .int 0, .int 0, .null, .null, .null, .null])), (q0, .inl (cI, 64, .inl (fun _ => 0))), (q1, .inl (cI, 64, .inl (fun _ => 0))), (q2, .inl (cI, 64, .inl (fun _ => 0))), (q3, .inl (cI, 64, .inl (fun _ => 0))), (q4, .inl (cI, 64, .inl (fun _ => 0))), (q5, .inl (cI, 64, .inl (fun _ => 0)))]) H := hP
  have hD : va_D A ([(h, .inr (0, [.ref q0, .ref q1, .ref q2, .ref q3, .ref q4, .ref q5, .null, .int 0, .int 0, .int 0, .int 0, .null, .null, .null, .null])), (q0, .inl (cI, 64, .inl (fun _ => 0))), (q1, .inl (cI, 64, .inl (fun _ => 0))), (q2, .inl (cI, 64, .inl (fun _ => 0))), (q3, .inl (cI, 64, .inl (fun _ => 0))), (q4, .inl (cI, 64, .inl (fun _ => 0))), (q5, .inl (cI, 64, .inl (fun _ => 0)))]) := hD
  refine lv_aload_n hx hb dX0_init_52 rfl (lv_at hl 0 rfl) ?_
  refine lv_bipush (v := 12) hx hb dX0_init_53 (by decide) ?_
  refine ct_newa (cells1 := 7) (slots1 := 396) hx hb (hts (Cond.arrayClass .int) (List.mem_of_getElem? (i := 4) rfl)) 0 rfl hK hP hD hS hA 12 rfl (by decide) rfl rfl (Nat.le_of_ble_eq_true rfl) (Nat.le_of_ble_eq_true rfl) dX0_init_55 (fun q6 H hP hD hS => ?_)
  have hP : va_P D vwCl ([(h, .inr (0, [.ref q0, .ref q1, .ref q2, .ref q3, .ref q4, .ref q5, .null, .int 0, .int 0, .int 0, .int 0, .null, .null, .null, .null])), (q0, .inl (cI, 64, .inl (fun _ => 0))), (q1, .inl (cI, 64, .inl (fun _ => 0))), (q2, .inl (cI, 64, .inl (fun _ => 0))), (q3, .inl (cI, 64, .inl (fun _ => 0))), (q4, .inl (cI, 64, .inl (fun _ => 0))), (q5, .inl (cI, 64, .inl (fun _ => 0))), (q6, .inl (cI, 12, .inl (fun _ => 0)))]) H := hP
  have hD : va_D A ([(h, .inr (0, [.ref q0, .ref q1, .ref q2, .ref q3, .ref q4, .ref q5, .null, .int 0, .int 0, .int 0, .int 0, .null, .null, .null, .null])), (q0, .inl (cI, 64, .inl (fun _ => 0))), (q1, .inl (cI, 64, .inl (fun _ => 0))), (q2, .inl (cI, 64, .inl (fun _ => 0))), (q3, .inl (cI, 64, .inl (fun _ => 0))), (q4, .inl (cI, 64, .inl (fun _ => 0))), (q5, .inl (cI, 64, .inl (fun _ => 0))), (q6, .inl (cI, 12, .inl (fun _ => 0)))]) := hD
  refine va_putF (D := D) (ci := 0) (v := .ref q6) (ty := .array .int) (C := RX0) (T := TX0) (N := 15) hx hb hts (fun _ h9 => (List.mem_cons_of_mem _ (List.mem_append_right _ h9))) tyX0 tyX0_ok nmX0 hown hK hP hD hS 0 rfl rfl 6 (by decide) (hts (Cond.fieldLink RX0 30 "FloodGrid$Plain" "rain" "[I") (List.mem_of_getElem? (i := 11) rfl)) (fun _ h9 => h9) rfl hin rfl (by decide +kernel) rfl rfl (Nat.le_of_ble_eq_true rfl) dX0_init_57 (fun H locs hP hD hS => ?_)
  have hP : va_P D vwCl ([(h, .inr (0, [.ref q0, .ref q1, .ref q2, .ref q3, .ref q4, .ref q5, .ref q6, .int 0, .int 0, .int 0, .int 0, .null, .null, .null, .null])), (q0, .inl (cI, 64, .inl (fun _ => 0))), (q1, .inl (cI, 64, .inl (fun _ => 0))), (q2, .inl (cI, 64, .inl (fun _ => 0))), (q3, .inl (cI, 64, .inl (fun _ => 0))), (q4, .inl (cI, 64, .inl (fun _ => 0))), (q5, .inl (cI, 64, .inl (fun _ => 0))), (q6, .inl (cI, 12, .inl (fun _ => 0)))]) H := hP
  have hD : va_D A ([(h, .inr (0, [.ref q0, .ref q1, .ref q2, .ref q3, .ref q4, .ref q5, .ref q6, .int 0, .int 0, .int 0, .int 0, .null, .null, .null, .null])), (q0, .inl (cI, 64, .inl (fun _ => 0))), (q1, .inl (cI, 64, .inl (fun _ => 0))), (q2, .inl (cI, 64, .inl (fun _ => 0))), (q3, .inl (cI, 64, .inl (fun _ => 0))), (q4, .inl (cI, 64, .inl (fun _ => 0))), (q5, .inl (cI, 64, .inl (fun _ => 0))), (q6, .inl (cI, 12, .inl (fun _ => 0)))]) := hD
  refine lv_aload_n hx hb dX0_init_60 rfl (lv_at hl 0 rfl) ?_
  refine lv_bipush (v := 64) hx hb dX0_init_61 (by decide) ?_
  refine ct_newa (cells1 := 8) (slots1 := 460) hx hb (hts (Cond.arrayClass .int) (List.mem_of_getElem? (i := 4) rfl)) 0 rfl hK hP hD hS hA 64 rfl (by decide) rfl rfl (Nat.le_of_ble_eq_true rfl) (Nat.le_of_ble_eq_true rfl) dX0_init_63 (fun q11 H hP hD hS => ?_)
  have hP : va_P D vwCl ([(h, .inr (0, [.ref q0, .ref q1, .ref q2, .ref q3, .ref q4, .ref q5, .ref q6, .int 0, .int 0, .int 0, .int 0, .null, .null, .null, .null])), (q0, .inl (cI, 64, .inl (fun _ => 0))), (q1, .inl (cI, 64, .inl (fun _ => 0))), (q2, .inl (cI, 64, .inl (fun _ => 0))), (q3, .inl (cI, 64, .inl (fun _ => 0))), (q4, .inl (cI, 64, .inl (fun _ => 0))), (q5, .inl (cI, 64, .inl (fun _ => 0))), (q6, .inl (cI, 12, .inl (fun _ => 0))), (q11, .inl (cI, 64, .inl (fun _ => 0)))]) H := hP
  have hD : va_D A ([(h, .inr (0, [.ref q0, .ref q1, .ref q2, .ref q3, .ref q4, .ref q5, .ref q6, .int 0, .int 0, .int 0, .int 0, .null, .null, .null, .null])), (q0, .inl (cI, 64, .inl (fun _ => 0))), (q1, .inl (cI, 64, .inl (fun _ => 0))), (q2, .inl (cI, 64, .inl (fun _ => 0))), (q3, .inl (cI, 64, .inl (fun _ => 0))), (q4, .inl (cI, 64, .inl (fun _ => 0))), (q5, .inl (cI, 64, .inl (fun _ => 0))), (q6, .inl (cI, 12, .inl (fun _ => 0))), (q11, .inl (cI, 64, .inl (fun _ => 0)))]) := hD
  refine va_putF (D := D) (ci := 0) (v := .ref q11) (ty := .array .int) (C := RX0) (T := TX0) (N := 15) hx hb hts (fun _ h9 => (List.mem_cons_of_mem _ (List.mem_append_right _ h9))) tyX0 tyX0_ok nmX0 hown hK hP hD hS 0 rfl rfl 11 (by decide) (hts (Cond.fieldLink RX0 33 "FloodGrid$Plain" "crests" "[I") (List.mem_of_getElem? (i := 12) rfl)) (fun _ h9 => h9) rfl hin rfl (by decide +kernel) rfl rfl (Nat.le_of_ble_eq_true rfl) dX0_init_65 (fun H locs hP hD hS => ?_)
  have hP : va_P D vwCl ([(h, .inr (0, [.ref q0, .ref q1, .ref q2, .ref q3, .ref q4, .ref q5, .ref q6, .int 0, .int 0, .int 0, .int 0, .ref q11, .null, .null, .null])), (q0, .inl (cI, 64, .inl (fun _ => 0))), (q1, .inl (cI, 64, .inl (fun _ => 0))), (q2, .inl (cI, 64, .inl (fun _ => 0))), (q3, .inl (cI, 64, .inl (fun _ => 0))), (q4, .inl (cI, 64, .inl (fun _ => 0))), (q5, .inl (cI, 64, .inl (fun _ => 0))), (q6, .inl (cI, 12, .inl (fun _ => 0))), (q11, .inl (cI, 64, .inl (fun _ => 0)))]) H := hP
  have hD : va_D A ([(h, .inr (0, [.ref q0, .ref q1, .ref q2, .ref q3, .ref q4, .ref q5, .ref q6, .int 0, .int 0, .int 0, .int 0, .ref q11, .null, .null, .null])), (q0, .inl (cI, 64, .inl (fun _ => 0))), (q1, .inl (cI, 64, .inl (fun _ => 0))), (q2, .inl (cI, 64, .inl (fun _ => 0))), (q3, .inl (cI, 64, .inl (fun _ => 0))), (q4, .inl (cI, 64, .inl (fun _ => 0))), (q5, .inl (cI, 64, .inl (fun _ => 0))), (q6, .inl (cI, 12, .inl (fun _ => 0))), (q11, .inl (cI, 64, .inl (fun _ => 0)))]) := hD
  refine lv_aload_n hx hb dX0_init_68 rfl (lv_at hl 0 rfl) ?_
  refine lv_bipush (v := 64) hx hb dX0_init_69 (by decide) ?_
  refine ct_newa (cells1 := 9) (slots1 := 524) hx hb (hts (Cond.arrayClass .int) (List.mem_of_getElem? (i := 4) rfl)) 0 rfl hK hP hD hS hA 64 rfl (by decide) rfl rfl (Nat.le_of_ble_eq_true rfl) (Nat.le_of_ble_eq_true rfl) dX0_init_71 (fun q12 H hP hD hS => ?_)
  have hP : va_P D vwCl ([(h, .inr (0, [.ref q0, .ref q1, .ref q2, .ref q3, .ref q4, .ref q5, .ref q6, .int 0, .int 0, .int 0, .int 0, .ref q11, .null, .null, .null])), (q0, .inl (cI, 64, .inl (fun _ => 0))), (q1, .inl (cI, 64, .inl (fun _ => 0))), (q2, .inl (cI, 64, .inl (fun _ => 0))), (q3, .inl (cI, 64, .inl (fun _ => 0))), (q4, .inl (cI, 64, .inl (fun _ => 0))), (q5, .inl (cI, 64, .inl (fun _ => 0))), (q6, .inl (cI, 12, .inl (fun _ => 0))), (q11, .inl (cI, 64, .inl (fun _ => 0))), (q12, .inl (cI, 64, .inl (fun _ => 0)))]) H := hP
  have hD : va_D A ([(h, .inr (0, [.ref q0, .ref q1, .ref q2, .ref q3, .ref q4, .ref q5, .ref q6, .int 0, .int 0, .int 0, .int 0, .ref q11, .null, .null, .null])), (q0, .inl (cI, 64, .inl (fun _ => 0))), (q1, .inl (cI, 64, .inl (fun _ => 0))), (q2, .inl (cI, 64, .inl (fun _ => 0))), (q3, .inl (cI, 64, .inl (fun _ => 0))), (q4, .inl (cI, 64, .inl (fun _ => 0))), (q5, .inl (cI, 64, .inl (fun _ => 0))), (q6, .inl (cI, 12, .inl (fun _ => 0))), (q11, .inl (cI, 64, .inl (fun _ => 0))), (q12, .inl (cI, 64, .inl (fun _ => 0)))]) := hD
  refine va_putF (D := D) (ci := 0) (v := .ref q12) (ty := .array .int) (C := RX0) (T := TX0) (N := 15) hx hb hts (fun _ h9 => (List.mem_cons_of_mem _ (List.mem_append_right _ h9))) tyX0 tyX0_ok nmX0 hown hK hP hD hS 0 rfl rfl 12 (by decide) (hts (Cond.fieldLink RX0 36 "FloodGrid$Plain" "gained" "[I") (List.mem_of_getElem? (i := 13) rfl)) (fun _ h9 => h9) rfl hin rfl (by decide +kernel) rfl rfl (Nat.le_of_ble_eq_true rfl) dX0_init_73 (fun H locs hP hD hS => ?_)
  have hP : va_P D vwCl ([(h, .inr (0, [.ref q0, .ref q1, .ref q2, .ref q3, .ref q4, .ref q5, .ref q6, .int 0, .int 0, .int 0, .int 0, .ref q11, .ref q12, .null, .null])), (q0, .inl (cI, 64, .inl (fun _ => 0))), (q1, .inl (cI, 64, .inl (fun _ => 0))), (q2, .inl (cI, 64, .inl (fun _ => 0))), (q3, .inl (cI, 64, .inl (fun _ => 0))), (q4, .inl (cI, 64, .inl (fun _ => 0))), (q5, .inl (cI, 64, .inl (fun _ => 0))), (q6, .inl (cI, 12, .inl (fun _ => 0))), (q11, .inl (cI, 64, .inl (fun _ => 0))), (q12, .inl (cI, 64, .inl (fun _ => 0)))]) H := hP
  have hD : va_D A ([(h, .inr (0, [.ref q0, .ref q1, .ref q2, .ref q3, .ref q4, .ref q5, .ref q6, .int 0, .int 0, .int 0, .int 0, .ref q11, .ref q12, .null, .null])), (q0, .inl (cI, 64, .inl (fun _ => 0))), (q1, .inl (cI, 64, .inl (fun _ => 0))), (q2, .inl (cI, 64, .inl (fun _ => 0))), (q3, .inl (cI, 64, .inl (fun _ => 0))), (q4, .inl (cI, 64, .inl (fun _ => 0))), (q5, .inl (cI, 64, .inl (fun _ => 0))), (q6, .inl (cI, 12, .inl (fun _ => 0))), (q11, .inl (cI, 64, .inl (fun _ => 0))), (q12, .inl (cI, 64, .inl (fun _ => 0)))]) := hD
  refine lv_aload_n hx hb dX0_init_76 rfl (lv_at hl 0 rfl) ?_
  refine lv_bipush (v := 64) hx hb dX0_init_77 (by decide) ?_
  refine ct_newa (cells1 := 10) (slots1 := 588) hx hb (hts (Cond.arrayClass .int) (List.mem_of_getElem? (i := 4) rfl)) 0 rfl hK hP hD hS hA 64 rfl (by decide) rfl rfl (Nat.le_of_ble_eq_true rfl) (Nat.le_of_ble_eq_true rfl) dX0_init_79 (fun q13 H hP hD hS => ?_)
  have hP : va_P D vwCl ([(h, .inr (0, [.ref q0, .ref q1, .ref q2, .ref q3, .ref q4, .ref q5, .ref q6, .int 0, .int 0, .int 0, .int 0, .ref q11, .ref q12, .null, .null])), (q0, .inl (cI, 64, .inl (fun _ => 0))), (q1, .inl (cI, 64, .inl (fun _ => 0))), (q2, .inl (cI, 64, .inl (fun _ => 0))), (q3, .inl (cI, 64, .inl (fun _ => 0))), (q4, .inl (cI, 64, .inl (fun _ => 0))), (q5, .inl (cI, 64, .inl (fun _ => 0))), (q6, .inl (cI, 12, .inl (fun _ => 0))), (q11, .inl (cI, 64, .inl (fun _ => 0))), (q12, .inl (cI, 64, .inl (fun _ => 0))), (q13, .inl (cI, 64, .inl (fun _ => 0)))]) H := hP
  have hD : va_D A ([(h, .inr (0, [.ref q0, .ref q1, .ref q2, .ref q3, .ref q4, .ref q5, .ref q6, .int 0, .int 0, .int 0, .int 0, .ref q11, .ref q12, .null, .null])), (q0, .inl (cI, 64, .inl (fun _ => 0))), (q1, .inl (cI, 64, .inl (fun _ => 0))), (q2, .inl (cI, 64, .inl (fun _ => 0))), (q3, .inl (cI, 64, .inl (fun _ => 0))), (q4, .inl (cI, 64, .inl (fun _ => 0))), (q5, .inl (cI, 64, .inl (fun _ => 0))), (q6, .inl (cI, 12, .inl (fun _ => 0))), (q11, .inl (cI, 64, .inl (fun _ => 0))), (q12, .inl (cI, 64, .inl (fun _ => 0))), (q13, .inl (cI, 64, .inl (fun _ => 0)))]) := hD
  refine va_putF (D := D) (ci := 0) (v := .ref q13) (ty := .array .int) (C := RX0) (T := TX0) (N := 15) hx hb hts (fun _ h9 => (List.mem_cons_of_mem _ (List.mem_append_right _ h9))) tyX0 tyX0_ok nmX0 hown hK hP hD hS 0 rfl rfl 13 (by decide) (hts (Cond.fieldLink RX0 39 "FloodGrid$Plain" "seen" "[I") (List.mem_of_getElem? (i := 14) rfl)) (fun _ h9 => h9) rfl hin rfl (by decide +kernel) rfl rfl (Nat.le_of_ble_eq_true rfl) dX0_init_81 (fun H locs hP hD hS => ?_)
  have hP : va_P D vwCl ([(h, .inr (0, [.ref q0, .ref q1, .ref q2, .ref q3, .ref q4, .ref q5, .ref q6, .int 0, .int 0, .int 0, .int 0, .ref q11, .ref q12, .ref q13, .null])), (q0, .inl (cI, 64, .inl (fun _ => 0))), (q1, .inl (cI, 64, .inl (fun _ => 0))), (q2, .inl (cI, 64, .inl (fun _ => 0))), (q3, .inl (cI, 64, .inl (fun _ => 0))), (q4, .inl (cI, 64, .inl (fun _ => 0))), (q5, .inl (cI, 64, .inl (fun _ => 0))), (q6, .inl (cI, 12, .inl (fun _ => 0))), (q11, .inl (cI, 64, .inl (fun _ => 0))), (q12, .inl (cI, 64, .inl (fun _ => 0))), (q13, .inl (cI, 64, .inl (fun _ => 0)))]) H := hP
  have hD : va_D A ([(h, .inr (0, [.ref q0, .ref q1, .ref q2, .ref q3, .ref q4, .ref q5, .ref q6, .int 0, .int 0, .int 0, .int 0, .ref q11, .ref q12, .ref q13, .null])), (q0, .inl (cI, 64, .inl (fun _ => 0))), (q1, .inl (cI, 64, .inl (fun _ => 0))), (q2, .inl (cI, 64, .inl (fun _ => 0))), (q3, .inl (cI, 64, .inl (fun _ => 0))), (q4, .inl (cI, 64, .inl (fun _ => 0))), (q5, .inl (cI, 64, .inl (fun _ => 0))), (q6, .inl (cI, 12, .inl (fun _ => 0))), (q11, .inl (cI, 64, .inl (fun _ => 0))), (q12, .inl (cI, 64, .inl (fun _ => 0))), (q13, .inl (cI, 64, .inl (fun _ => 0)))]) := hD
  refine lv_aload_n hx hb dX0_init_84 rfl (lv_at hl 0 rfl) ?_
  refine lv_bipush (v := 64) hx hb dX0_init_85 (by decide) ?_
  refine ct_newa (cells1 := 11) (slots1 := 652) hx hb (hts (Cond.arrayClass .int) (List.mem_of_getElem? (i := 4) rfl)) 0 rfl hK hP hD hS hA 64 rfl (by decide) rfl rfl (Nat.le_of_ble_eq_true rfl) (Nat.le_of_ble_eq_true rfl) dX0_init_87 (fun q14 H hP hD hS => ?_)
  have hP : va_P D vwCl ([(h, .inr (0, [.ref q0, .ref q1, .ref q2, .ref q3, .ref q4, .ref q5, .ref q6, .int 0, .int 0, .int 0, .int 0, .ref q11, .ref q12, .ref q13, .null])), (q0, .inl (cI, 64, .inl (fun _ => 0))), (q1, .inl (cI, 64, .inl (fun _ => 0))), (q2, .inl (cI, 64, .inl (fun _ => 0))), (q3, .inl (cI, 64, .inl (fun _ => 0))), (q4, .inl (cI, 64, .inl (fun _ => 0))), (q5, .inl (cI, 64, .inl (fun _ => 0))), (q6, .inl (cI, 12, .inl (fun _ => 0))), (q11, .inl (cI, 64, .inl (fun _ => 0))), (q12, .inl (cI, 64, .inl (fun _ => 0))), (q13, .inl (cI, 64, .inl (fun _ => 0))), (q14, .inl (cI, 64, .inl (fun _ => 0)))]) H := hP
  have hD : va_D A ([(h, .inr (0, [.ref q0, .ref q1, .ref q2, .ref q3, .ref q4, .ref q5, .ref q6, .int 0, .int 0, .int 0, .int 0, .ref q11, .ref q12, .ref q13, .null])), (q0, .inl (cI, 64, .inl (fun _ => 0))), (q1, .inl (cI, 64, .inl (fun _ => 0))), (q2, .inl (cI, 64, .inl (fun _ => 0))), (q3, .inl (cI, 64, .inl (fun _ => 0))), (q4, .inl (cI, 64, .inl (fun _ => 0))), (q5, .inl (cI, 64, .inl (fun _ => 0))), (q6, .inl (cI, 12, .inl (fun _ => 0))), (q11, .inl (cI, 64, .inl (fun _ => 0))), (q12, .inl (cI, 64, .inl (fun _ => 0))), (q13, .inl (cI, 64, .inl (fun _ => 0))), (q14, .inl (cI, 64, .inl (fun _ => 0)))]) := hD
  refine va_putF (D := D) (ci := 0) (v := .ref q14) (ty := .array .int) (C := RX0) (T := TX0) (N := 15) hx hb hts (fun _ h9 => (List.mem_cons_of_mem _ (List.mem_append_right _ h9))) tyX0 tyX0_ok nmX0 hown hK hP hD hS 0 rfl rfl 14 (by decide) (hts (Cond.fieldLink RX0 42 "FloodGrid$Plain" "found" "[I") (List.mem_of_getElem? (i := 15) rfl)) (fun _ h9 => h9) rfl hin rfl (by decide +kernel) rfl rfl (Nat.le_of_ble_eq_true rfl) dX0_init_89 (fun H locs hP hD hS => ?_)
  have hP : va_P D vwCl ([(h, .inr (0, [.ref q0, .ref q1, .ref q2, .ref q3, .ref q4, .ref q5, .ref q6, .int 0, .int 0, .int 0, .int 0, .ref q11, .ref q12, .ref q13, .ref q14])), (q0, .inl (cI, 64, .inl (fun _ => 0))), (q1, .inl (cI, 64, .inl (fun _ => 0))), (q2, .inl (cI, 64, .inl (fun _ => 0))), (q3, .inl (cI, 64, .inl (fun _ => 0))), (q4, .inl (cI, 64, .inl (fun _ => 0))), (q5, .inl (cI, 64, .inl (fun _ => 0))), (q6, .inl (cI, 12, .inl (fun _ => 0))), (q11, .inl (cI, 64, .inl (fun _ => 0))), (q12, .inl (cI, 64, .inl (fun _ => 0))), (q13, .inl (cI, 64, .inl (fun _ => 0))), (q14, .inl (cI, 64, .inl (fun _ => 0)))]) H := hP
  have hD : va_D A ([(h, .inr (0, [.ref q0, .ref q1, .ref q2, .ref q3, .ref q4, .ref q5, .ref q6, .int 0, .int 0, .int 0, .int 0, .ref q11, .ref q12, .ref q13, .ref q14])), (q0, .inl (cI, 64, .inl (fun _ => 0))), (q1, .inl (cI, 64, .inl (fun _ => 0))), (q2, .inl (cI, 64, .inl (fun _ => 0))), (q3, .inl (cI, 64, .inl (fun _ => 0))), (q4, .inl (cI, 64, .inl (fun _ => 0))), (q5, .inl (cI, 64, .inl (fun _ => 0))), (q6, .inl (cI, 12, .inl (fun _ => 0))), (q11, .inl (cI, 64, .inl (fun _ => 0))), (q12, .inl (cI, 64, .inl (fun _ => 0))), (q13, .inl (cI, 64, .inl (fun _ => 0))), (q14, .inl (cI, 64, .inl (fun _ => 0)))]) := hD
  refine lv_aload_n hx hb dX0_init_92 rfl (lv_at hl 0 rfl) ?_
  refine va_get (D := D) (ci := 0) (v := .ref q0) (C := RX0) (T := TX0) (N := 15) hx hb hts (fun _ h9 => (List.mem_cons_of_mem _ (List.mem_append_right _ h9))) hown hK hP 0 rfl rfl 0 (by decide) (hts (Cond.fieldLink RX0 9 "FloodGrid$Plain" "height" "[I") (List.mem_of_getElem? (i := 5) rfl)) (fun _ h9 => h9) rfl dX0_init_93 ?_
  refine lv_bipush (v := 10) hx hb dX0_init_96 (by decide) ?_
  refine ct_Sv (As := [.ref q0, .int 10]) (rest := []) (wr := [(h, .inr (0, [.ref q0, .ref q1, .ref q2, .ref q3, .ref q4, .ref q5, .ref q6, .int 0, .int 0, .int 0, .int 0, .ref q11, .ref q12, .ref q13, .ref q14])), (q1, .inl (cI, 64, .inl (fun _ => 0))), (q2, .inl (cI, 64, .inl (fun _ => 0))), (q3, .inl (cI, 64, .inl (fun _ => 0))), (q4, .inl (cI, 64, .inl (fun _ => 0))), (q5, .inl (cI, 64, .inl (fun _ => 0))), (q6, .inl (cI, 12, .inl (fun _ => 0))), (q11, .inl (cI, 64, .inl (fun _ => 0))), (q12, .inl (cI, 64, .inl (fun _ => 0))), (q13, .inl (cI, 64, .inl (fun _ => 0))), (q14, .inl (cI, 64, .inl (fun _ => 0)))]) (W1 := fun u => ([(h, .inr (0, [.ref q0, .ref q1, .ref q2, .ref q3, .ref q4, .ref q5, .ref q6, .int 0, .int 0, .int 0, .int 0, .ref q11, .ref q12, .ref q13, .ref q14])), (q0, .inl (cI, 64, .inl (fun _ => 10))), (q1, .inl (cI, 64, .inl (fun _ => 0))), (q2, .inl (cI, 64, .inl (fun _ => 0))), (q3, .inl (cI, 64, .inl (fun _ => 0))), (q4, .inl (cI, 64, .inl (fun _ => 0))), (q5, .inl (cI, 64, .inl (fun _ => 0))), (q6, .inl (cI, 12, .inl (fun _ => 0))), (q11, .inl (cI, 64, .inl (fun _ => 0))), (q12, .inl (cI, 64, .inl (fun _ => 0))), (q13, .inl (cI, 64, .inl (fun _ => 0))), (q14, .inl (cI, 64, .inl (fun _ => 0)))])) (cells1 := 11) (slots1 := 652) ⟨hx, hb, hml, hown, hts⟩ (c_fill l D cI q0 64 (by decide) (fun _ => 0) 10) (va_cwS 2 hts gX0_init_J7_fill_53178 rfl rfl rfl (by decide +kernel) ⟨Nat.le_of_ble_eq_true rfl, Nat.le_of_ble_eq_true rfl⟩) hK hP hD hS hA [1] [0, 2, 3, 4, 5, 6, 7, 8, 9, 10, 11] ⟨rfl, rfl, rfl, rfl, rfl⟩ [0, 11, 1, 2, 3, 4, 5, 6, 7, 8, 9, 10] rfl (fun _ => rfl) [0] rfl rfl hl.1 rfl (Nat.le_of_ble_eq_true rfl) rfl rfl ⟨Nat.le_of_ble_eq_true rfl, Nat.le_of_ble_eq_true rfl⟩ dX0_init_98 (fun u H locs hw hP hD hS => ?_)
  exact fin (fun k => match k with | 0 => q0 | 1 => q1 | 2 => q2 | 3 => q3 | 4 => q4 | 5 => q5 | 6 => q6 | 11 => q11 | 12 => q12 | 13 => q13 | _ => q14) H locs 11 652 101 ls dX0_init_101 trivial hP hD hS (Nat.le_of_ble_eq_true rfl) (Nat.le_of_ble_eq_true rfl)
end
section
/-! lakes: what is marked, as a row of 0 and 1, and what is found, as a row's first numbers -/
def q_bits (sn : Nat → Bool) : Nat → Int32 := fun j => if sn j = true then 1 else 0
def q_row (fd : List Nat) (f : Nat → Int32) : Prop := ∀ i, i < fd.length → f i = nI (fd.getD i 0)
def q_cnt (sn : Nat → Bool) : Nat → Nat
  | 0 => 0
  | n + 1 => q_cnt sn n + (if sn n = true then 1 else 0)
theorem q_cnt_le (sn : Nat → Bool) : ∀ n, q_cnt sn n ≤ n
  | 0 => Nat.le_refl _
  | n + 1 => by
    have h := q_cnt_le sn n
    simp only [q_cnt]
    split <;> omega
theorem q_cnt_mark {sn : Nat → Bool} {j : Nat} (h : sn j = false) : ∀ n, q_cnt (q_mark sn j) n = q_cnt sn n + (if j < n then 1 else 0)
  | 0 => by simp [q_cnt]
  | n + 1 => by
    have ih := q_cnt_mark h n
    simp only [q_cnt, ih]
    by_cases hj : n = j
    · subst hj
      have h1 : q_mark sn n n = true := by simp [q_mark]
      have h2 : ¬ n < n := Nat.lt_irrefl n
      have h3 : n < n + 1 := Nat.lt_succ_self n
      simp [h1, h2, h3, h]
    · have h1 : q_mark sn j n = sn n := by simp [q_mark, hj]
      rw [h1]
      by_cases hl : j < n
      · have h3 : j < n + 1 := by omega
        rw [if_pos hl, if_pos h3]; omega
      · have h3 : ¬ j < n + 1 := by omega
        rw [if_neg hl, if_neg h3]; omega
theorem q_cnt_full {sn : Nat → Bool} : ∀ n, q_cnt sn n = n → ∀ j, j < n → sn j = true
  | 0, _, j, hj => absurd hj (Nat.not_lt_zero j)
  | n + 1, h, j, hj => by
    simp only [q_cnt] at h
    have h1 := q_cnt_le sn n
    by_cases hs : sn n = true
    · rw [if_pos hs] at h
      by_cases hjn : j = n
      · rw [hjn]; exact hs
      · exact q_cnt_full n (by omega) j (by omega)
    · rw [if_neg hs] at h
      omega
def q_ok (z : Ls) : Prop := (∀ x ∈ z.2, x < 64) ∧ z.2.length ≤ q_cnt z.1 64
theorem q_ok_0 (sn : Nat → Bool) : q_ok (sn, []) := ⟨fun x h => absurd h List.not_mem_nil, Nat.zero_le _⟩
theorem q_ok_len {z : Ls} (h : q_ok z) : z.2.length ≤ 64 := Nat.le_trans h.2 (q_cnt_le _ _)
theorem q_ok_full {z : Ls} (h : q_ok z) (hl : 64 ≤ z.2.length) {j : Nat} (hj : j < 64) : z.1 j = true := by
  have h1 := q_cnt_le z.1 64
  have h2 := h.2
  exact q_cnt_full 64 (by omega) j hj
theorem q_meet_yes {wat : Nat → Int32} {j : Nat} {z : Ls} (h : z.1 j = false ∧ 0 < wat j) : q_meet wat (some j) z = (q_mark z.1 j, z.2 ++ [j]) := by
  simp only [q_meet]; rw [if_pos h]
theorem q_meet_no {wat : Nat → Int32} {j : Nat} {z : Ls} (h : ¬ (z.1 j = false ∧ 0 < wat j)) : q_meet wat (some j) z = z := by
  simp only [q_meet]; rw [if_neg h]
theorem q_ok_meet {wat : Nat → Int32} {o : Option Nat} (ho : ∀ j, o = some j → j < 64) {z : Ls} (h : q_ok z) : q_ok (q_meet wat o z) := by
  cases o with
  | none => exact h
  | some j =>
    by_cases hc : z.1 j = false ∧ 0 < wat j
    · rw [q_meet_yes hc]
      have hj := ho j rfl
      refine ⟨fun x hx => ?_, ?_⟩
      · rcases List.mem_append.mp hx with h1 | h1
        · exact h.1 x h1
        · rw [List.mem_singleton.mp h1]; exact hj
      · show (z.2 ++ [j]).length ≤ q_cnt (q_mark z.1 j) 64
        rw [q_cnt_mark hc.1, if_pos hj, List.length_append]
        have := h.2
        simp only [List.length_cons, List.length_nil]
        omega
    · rw [q_meet_no hc]; exact h
/-- what was found stays at its place -/
theorem q_meet_get {wat : Nat → Int32} {o : Option Nat} {z : Ls} {i : Nat} (hi : i < z.2.length) : i < (q_meet wat o z).2.length ∧ (q_meet wat o z).2.getD i 0 = z.2.getD i 0 := by
  cases o with
  | none => exact ⟨hi, rfl⟩
  | some j =>
    by_cases hc : z.1 j = false ∧ 0 < wat j
    · rw [q_meet_yes hc]
      refine ⟨by show i < (z.2 ++ [j]).length; rw [List.length_append]; omega, ?_⟩
      show (z.2 ++ [j]).getD i 0 = _
      simp only [List.getD_eq_getElem?_getD]
      rw [List.getElem?_append_left hi]
    · rw [q_meet_no hc]; exact ⟨hi, rfl⟩
theorem q_sides_get {wat : Nat → Int32} {k : Nat} {z : Ls} {i : Nat} (hi : i < z.2.length) : ∀ s, i < (q_sides wat k s z).2.length ∧ (q_sides wat k s z).2.getD i 0 = z.2.getD i 0
  | 0 => ⟨hi, rfl⟩
  | s + 1 => by
    obtain ⟨h1, h2⟩ := q_sides_get (wat := wat) (k := k) hi s
    obtain ⟨h3, h4⟩ := q_meet_get (wat := wat) (o := q_nb k s) h1
    exact ⟨h3, h4.trans h2⟩
theorem q_ok_sides {wat : Nat → Int32} {k : Nat} (hk : k < 64) {z : Ls} (h : q_ok z) : ∀ s, q_ok (q_sides wat k s z)
  | 0 => h
  | s + 1 => q_ok_meet (fun j hj => q_nb_lt hk hj) (q_ok_sides hk h s)
theorem q_ok_at {z : Ls} (h : q_ok z) {i : Nat} (hi : i < z.2.length) : z.2.getD i 0 < 64 := by
  rw [List.getD_eq_getElem?_getD, List.getElem?_eq_getElem hi]
  exact h.1 _ (List.getElem_mem hi)
theorem q_bits_mark (sn : Nat → Bool) (j : Nat) : upd (q_bits sn) j 1 = q_bits (q_mark sn j) := by
  funext i
  unfold upd q_bits q_mark
  by_cases h : i = j
  · simp [h]
  · simp [h]
theorem q_bits_1 {sn : Nat → Bool} {j : Nat} (h : ¬ q_bits sn j = 0) : sn j = true := by
  unfold q_bits at h
  by_cases hs : sn j = true
  · exact hs
  · rw [if_neg hs] at h; exact absurd rfl h
theorem q_bits_0 {sn : Nat → Bool} {j : Nat} (h : q_bits sn j = 0) : sn j = false := by
  unfold q_bits at h
  by_cases hs : sn j = true
  · rw [if_pos hs] at h; exact absurd h (by decide)
  · simpa using hs
theorem q_row_push {fd : List Nat} {f : Nat → Int32} (h : q_row fd f) (j : Nat) : q_row (fd ++ [j]) (upd f fd.length (nI j)) := by
  intro i hi
  rw [List.length_append] at hi
  simp only [List.length_cons, List.length_nil] at hi
  unfold upd
  by_cases he : i = fd.length
  · subst he
    simp only [if_true, List.getD_eq_getElem?_getD]
    rw [List.getElem?_append_right (Nat.le_refl _)]
    simp
  · rw [if_neg he]
    have hl : i < fd.length := by omega
    rw [h i hl]
    simp only [List.getD_eq_getElem?_getD]
    rw [List.getElem?_append_left hl]
theorem q_row_0 (f : Nat → Int32) : q_row [] f := fun i hi => absurd hi (Nat.not_lt_zero i)
theorem q_spread_stop {wat : Nat → Int32} {n i : Nat} {z : Ls} (hi : i + (n + 1) = 64) (h : z.2.length ≤ i) : q_spread wat (n + 1) z = z := by
  have e : 64 - (n + 1) = i := by omega
  simp only [q_spread]
  rw [e, if_neg (by omega)]
theorem q_spread_go {wat : Nat → Int32} {n i : Nat} {z : Ls} (hi : i + (n + 1) = 64) (h : i < z.2.length) : q_spread wat (n + 1) z = q_spread wat n (q_sides wat (z.2.getD i 0) 4 z) := by
  have e : 64 - (n + 1) = i := by omega
  have e2 : q_spread wat (n + 1) z = if 64 - (n + 1) < z.2.length then q_spread wat n (q_sides wat (z.2.getD (64 - (n + 1)) 0) 4 z) else z := rfl
  rw [e2, e, if_pos h]
theorem q_ok_spread {wat : Nat → Int32} : ∀ (n : Nat) {z : Ls}, q_ok z → q_ok (q_spread wat n z)
  | 0, _, h => h
  | n + 1, z, h => by
    have e2 : q_spread wat (n + 1) z = if 64 - (n + 1) < z.2.length then q_spread wat n (q_sides wat (z.2.getD (64 - (n + 1)) 0) 4 z) else z := rfl
    rw [e2]
    by_cases hc : 64 - (n + 1) < z.2.length
    · rw [if_pos hc]; exact q_ok_spread n (q_ok_sides (q_ok_at h hc) h 4)
    · rw [if_neg hc]; exact h
theorem q_ok_from (wat : Nat → Int32) (sn : Nat → Bool) {k : Nat} (hk : k < 64) : q_ok (q_from wat sn k) := q_ok_spread 64 (q_ok_meet (fun j hj => by cases hj; exact hk) (q_ok_0 sn))
theorem q_from_len (wat : Nat → Int32) (sn : Nat → Bool) {k : Nat} (hk : k < 64) : (q_from wat sn k).2.length ≤ 64 := q_ok_len (q_ok_from wat sn hk)
theorem q_lakesS_le (wat : Nat → Int32) : ∀ i, (q_lakesS wat i).2 ≤ i
  | 0 => Nat.le_refl _
  | i + 1 => by
    have h := q_lakesS_le wat i
    simp only [q_lakesS]
    split <;> omega
end
section
abbrev rm_X0_meet : Room := { frames := 0, cells := 0, slots := 0, locals := 0 }
set_option maxHeartbeats 4000000 in
set_option maxRecDepth 100000 in
theorem c_X0_meet (l : Launch) (D : va_G) (cI : ClassId) (h : Nat) (ad : Nat → Nat) (hei wat dam wea dra peo rai : Nat → Int32) (hou bro drd lef : Int32) (cre gai fou : Nat → Int32) (o : Option Nat) (ho : ∀ j, o = some j → j < 64) (z : Ls) (hz : q_ok z) (hrow : q_row z.2 fou) : ct_i (S := Nat → Int32) l D yX0_meet wsX0_meet rm_X0_meet [.ref h, .int (q_v o), .int (nI z.2.length)] (pW h ad cI hei wat dam wea dra peo rai hou bro drd lef cre gai (q_bits z.1) fou) [(cI, .int)] (fun r u => r = nI (q_meet wat o z).2.length ∧ q_row (q_meet wat o z).2 u) (fun u => (pW h ad cI hei wat dam wea dra peo rai hou bro drd lef cre gai (q_bits (q_meet wat o z).1) u)) := by
  refine ct_ofi (cc := cX0_meet) (maxL := 3) (by decide) rfl (Nat.le_of_ble_eq_true rfl) ?_
  intro p e s m args below meth c A Q hx hb hml hown hts hin hA hK H locs hP hD hS fin ls hl
  have hown : s.vm.findClass RX0 = some m.cls := hown
  have hl : lv_has ls 3 [(0, .ref h), (1, .int (q_v o)), (2, .int (nI z.2.length))] := hl
  have hlen := q_ok_len hz
  cases o with
  | none =>
    have hl : lv_has ls 3 [(0, .ref h), (1, .int (-1)), (2, .int (nI z.2.length))] := hl
    refine lv_iload_n hx hb dX0_meet_0 rfl (lv_at hl 1 rfl) ?_
    refine lv_if_lt (tgt := 28) hx hb dX0_meet_1 (by decide) (fun hc => ?_) (fun hc => ?_)
    · skip
      refine lv_iload_n hx hb dX0_meet_28 rfl (lv_at hl 2 rfl) ?_
      exact fin (nI z.2.length) fou H locs 0 0 29 ls dX0_meet_29 ⟨rfl, hrow⟩ hP hD hS (Nat.le_of_ble_eq_true rfl) (Nat.le_of_ble_eq_true rfl)
    · skip
      exact absurd (by decide) hc
  | some j =>
    have hj : j < 64 := ho j rfl
    have hl : lv_has ls 3 [(0, .ref h), (1, .int (nI j)), (2, .int (nI z.2.length))] := hl
    refine lv_iload_n hx hb dX0_meet_0 rfl (lv_at hl 1 rfl) ?_
    refine lv_if_lt (tgt := 28) hx hb dX0_meet_1 (by decide) (fun hc => ?_) (fun hc => ?_)
    · skip
      exact absurd hc (nI_pos (by omega))
    · skip
      refine lv_iload_n hx hb dX0_meet_4 rfl (lv_at hl 2 rfl) ?_
      refine lv_bipush (v := 64) hx hb dX0_meet_5 (by decide) ?_
      refine lv_icmp_ge (tgt := 28) hx hb dX0_meet_7 (by decide) (fun hc2 => ?_) (fun hc2 => ?_)
      · skip
        have h64 : 64 ≤ z.2.length := nb_ge (a := 64) hc2 (by decide) (by omega)
        have e9 : q_meet wat (some j) z = z := q_meet_no (fun y => by rw [q_ok_full hz h64 hj] at y; exact absurd y.1 (by decide))
        rw [e9] at fin
        refine lv_iload_n hx hb dX0_meet_28 rfl (lv_at hl 2 rfl) ?_
        exact fin (nI z.2.length) fou H locs 0 0 29 ls dX0_meet_29 ⟨rfl, hrow⟩ hP hD hS (Nat.le_of_ble_eq_true rfl) (Nat.le_of_ble_eq_true rfl)
      · skip
        have h64 : z.2.length < 64 := nb_lt (a := 64) hc2 (by omega)
        refine lv_aload_n hx hb dX0_meet_10 rfl (lv_at hl 0 rfl) ?_
        refine va_get (D := D) (ci := 0) (v := .ref (ad 13)) (C := RX0) (T := TX0) (N := 15) hx hb hts (fun _ h9 => (List.mem_cons_of_mem _ (List.mem_append_right _ h9))) hown hK hP 0 rfl rfl 13 (by decide) (hts (Cond.fieldLink RX0 39 "FloodGrid$Plain" "seen" "[I") (List.mem_of_getElem? (i := 1) rfl)) (fun _ h9 => h9) rfl dX0_meet_11 ?_
        refine lv_iload_n hx hb dX0_meet_14 rfl (lv_at hl 1 rfl) ?_
        refine ct_iald (v := (q_bits z.1) j) hx hb hK hP 10 0 rfl rfl j rfl (by omega) (by decide) rfl dX0_meet_15 ?_
        refine lv_if_ne (tgt := 28) hx hb dX0_meet_16 (by decide) (fun hc3 => ?_) (fun hc3 => ?_)
        · skip
          have e9 : q_meet wat (some j) z = z := q_meet_no (fun y => by rw [q_bits_1 hc3] at y; exact absurd y.1 (by decide))
          rw [e9] at fin
          refine lv_iload_n hx hb dX0_meet_28 rfl (lv_at hl 2 rfl) ?_
          exact fin (nI z.2.length) fou H locs 0 0 29 ls dX0_meet_29 ⟨rfl, hrow⟩ hP hD hS (Nat.le_of_ble_eq_true rfl) (Nat.le_of_ble_eq_true rfl)
        · skip
          refine lv_aload_n hx hb dX0_meet_19 rfl (lv_at hl 0 rfl) ?_
          refine va_get (D := D) (ci := 0) (v := .ref (ad 1)) (C := RX0) (T := TX0) (N := 15) hx hb hts (fun _ h9 => (List.mem_cons_of_mem _ (List.mem_append_right _ h9))) hown hK hP 0 rfl rfl 1 (by decide) (hts (Cond.fieldLink RX0 15 "FloodGrid$Plain" "water" "[I") (List.mem_of_getElem? (i := 2) rfl)) (fun _ h9 => h9) rfl dX0_meet_20 ?_
          refine lv_iload_n hx hb dX0_meet_23 rfl (lv_at hl 1 rfl) ?_
          refine ct_iald (v := wat j) hx hb hK hP 2 0 rfl rfl j rfl (by omega) (by decide) rfl dX0_meet_24 ?_
          refine lv_if_gt (tgt := 30) hx hb dX0_meet_25 (by decide) (fun hc4 => ?_) (fun hc4 => ?_)
          · skip
            have e9 : q_meet wat (some j) z = (q_mark z.1 j, z.2 ++ [j]) := q_meet_yes ⟨q_bits_0 hc3, hc4⟩
            rw [e9] at fin
            refine lv_aload_n hx hb dX0_meet_30 rfl (lv_at hl 0 rfl) ?_
            refine va_get (D := D) (ci := 0) (v := .ref (ad 13)) (C := RX0) (T := TX0) (N := 15) hx hb hts (fun _ h9 => (List.mem_cons_of_mem _ (List.mem_append_right _ h9))) hown hK hP 0 rfl rfl 13 (by decide) (hts (Cond.fieldLink RX0 39 "FloodGrid$Plain" "seen" "[I") (List.mem_of_getElem? (i := 1) rfl)) (fun _ h9 => h9) rfl dX0_meet_31 ?_
            refine lv_iload_n hx hb dX0_meet_34 rfl (lv_at hl 1 rfl) ?_
            refine lv_iconst (v := 1) hx hb dX0_meet_35 (by decide) ?_
            refine ct_iast (g := (q_bits (q_mark z.1 j))) (ws1 := (pW h ad cI hei wat dam wea dra peo rai hou bro drd lef cre gai (q_bits (q_mark z.1 j)) fou)) hx hb hK hP hD hS 10 0 rfl rfl j rfl (by omega) (by decide) (q_bits_mark _ _) rfl dX0_meet_36 (fun H locs hP hD hS => ?_)
            refine lv_aload_n hx hb dX0_meet_37 rfl (lv_at hl 0 rfl) ?_
            refine va_get (D := D) (ci := 0) (v := .ref (ad 14)) (C := RX0) (T := TX0) (N := 15) hx hb hts (fun _ h9 => (List.mem_cons_of_mem _ (List.mem_append_right _ h9))) hown hK hP 0 rfl rfl 14 (by decide) (hts (Cond.fieldLink RX0 42 "FloodGrid$Plain" "found" "[I") (List.mem_of_getElem? (i := 3) rfl)) (fun _ h9 => h9) rfl dX0_meet_38 ?_
            refine lv_iload_n hx hb dX0_meet_41 rfl (lv_at hl 2 rfl) ?_
            refine lv_iload_n hx hb dX0_meet_42 rfl (lv_at hl 1 rfl) ?_
            refine ct_iast (g := upd fou z.2.length (nI j)) (ws1 := (pW h ad cI hei wat dam wea dra peo rai hou bro drd lef cre gai (q_bits (q_mark z.1 j)) (upd fou z.2.length (nI j)))) hx hb hK hP hD hS 11 0 rfl rfl z.2.length rfl (by omega) (by decide) rfl rfl dX0_meet_43 (fun H locs hP hD hS => ?_)
            refine lv_iload_n hx hb dX0_meet_44 rfl (lv_at hl 2 rfl) ?_
            refine lv_iconst (v := 1) hx hb dX0_meet_45 (by decide) ?_
            refine lv_iadd hx hb dX0_meet_46 ?_
            exact fin ((nI z.2.length) + 1) (upd fou z.2.length (nI j)) H locs 0 0 47 ls dX0_meet_47 ⟨(by rw [nI_1, List.length_append]; rfl), q_row_push hrow j⟩ hP hD hS (Nat.le_of_ble_eq_true rfl) (Nat.le_of_ble_eq_true rfl)
          · skip
            have e9 : q_meet wat (some j) z = z := q_meet_no (fun y => hc4 y.2)
            rw [e9] at fin
            refine lv_iload_n hx hb dX0_meet_28 rfl (lv_at hl 2 rfl) ?_
            exact fin (nI z.2.length) fou H locs 0 0 29 ls dX0_meet_29 ⟨rfl, hrow⟩ hP hD hS (Nat.le_of_ble_eq_true rfl) (Nat.le_of_ble_eq_true rfl)
abbrev rm_X0_spreadFrom : Room := { frames := 1, cells := 0, slots := 0, locals := 23 }
set_option maxHeartbeats 4000000 in
set_option maxRecDepth 100000 in
theorem c_X0_spread (l : Launch) (D : va_G) (cI : ClassId) (h : Nat) (ad : Nat → Nat) (hei wat dam wea dra peo rai : Nat → Int32) (hou bro drd lef : Int32) (cre gai fou : Nat → Int32) (sn : Nat → Bool) (k : Nat) (hk : k < 64) : ct_i (S := Nat → Int32) l D yX0_spreadFrom wsX0_spreadFrom rm_X0_spreadFrom [.ref h, .int (nI k)] (pW h ad cI hei wat dam wea dra peo rai hou bro drd lef cre gai (q_bits sn) fou) [(cI, .int)] (fun r (_ : Nat → Int32) => r = nI (q_from wat sn k).2.length) (fun u => (pW h ad cI hei wat dam wea dra peo rai hou bro drd lef cre gai (q_bits (q_from wat sn k).1) u)) := by
  refine ct_ofi (cc := cX0_spreadFrom) (maxL := 5) (by decide) rfl (Nat.le_of_ble_eq_true rfl) ?_
  intro p e s m args below meth c A Q hx hb hml hown hts hin hA hK H locs hP hD hS fin ls hl
  have hown : s.vm.findClass RX0 = some m.cls := hown
  have hl : lv_has ls 5 [(0, .ref h), (1, .int (nI k))] := hl
  refine lv_aload_n hx hb dX0_spreadFrom_0 rfl (lv_at hl 0 rfl) ?_
  refine lv_iload_n hx hb dX0_spreadFrom_1 rfl (lv_at hl 1 rfl) ?_
  refine lv_iconst (v := 0) hx hb dX0_spreadFrom_2 (by decide) ?_
  show W p l e rm_X0_spreadFrom s m args below meth c H locs 0 0 Q (F0 m 3 ls [.int (nI ([] : List Nat).length), .int (q_v (some k)), .ref h])
  refine ct_Vi (As := [.int (q_v (some k)), .int (nI ([] : List Nat).length)]) (rest := []) (wr := []) (W1 := fun u => (pW h ad cI hei wat dam wea dra peo rai hou bro drd lef cre gai (q_bits (q_meet wat (some k) (sn, [])).1) u)) (cells1 := 0) (slots1 := 0) ⟨hx, hb, hml, hown, hts⟩ (c_X0_meet l D cI h ad hei wat dam wea dra peo rai hou bro drd lef cre gai fou (some k) (fun j hj => by cases hj; exact hk) (sn, []) (q_ok_0 sn) (q_row_0 fou)) (cwV 2 hts gX0_spreadFrom_X0_meet rfl rfl rfl (by decide +kernel) ⟨Nat.le_of_ble_eq_true rfl, Nat.le_of_ble_eq_true rfl⟩) hK hP hD hS hA [0, 1, 2, 3, 4, 5, 6, 7, 8, 9, 10, 11] [] ⟨rfl, rfl, rfl, rfl, rfl⟩ [0, 1, 2, 3, 4, 5, 6, 7, 8, 9, 10, 11] rfl (fun _ => rfl) [0] rfl (va_recv hK hP (ci := 0) (q0 := 0) rfl rfl) rfl hl.1 rfl (Nat.le_of_ble_eq_true rfl) rfl rfl ⟨Nat.le_of_ble_eq_true rfl, Nat.le_of_ble_eq_true rfl⟩ dX0_spreadFrom_3 (fun r u H locs hw hP hD hS => ?_)
  obtain ⟨rfl, hrow⟩ := hw
  refine lv_istore_n (lv' := [(2, .int (nI (q_meet wat (some k) (sn, [])).2.length)), (0, .ref h), (1, .int (nI k))]) hx hb dX0_spreadFrom_6 rfl hl (by decide) rfl (fun ls hl => ?_)
  refine lv_iconst (v := 0) hx hb dX0_spreadFrom_7 (by decide) ?_
  refine lv_istore_n (lv' := [(3, .int 0), (2, .int (nI (q_meet wat (some k) (sn, [])).2.length)), (0, .ref h), (1, .int (nI k))]) hx hb dX0_spreadFrom_8 rfl hl (by decide) rfl (fun ls hl => ?_)
  have hok : q_ok (q_meet wat (some k) (sn, [])) := q_ok_meet (fun j hj => by cases hj; exact hk) (q_ok_0 sn)
  have loop : ∀ (fu i : Nat), i + fu = 64 → ∀ (z : Ls) (f : Nat → Int32) (H : Heap) (locs : List Loc) (ls : Array Slot), (q_spread wat fu z = q_from wat sn k) → (q_ok z) → (q_row z.2 f) → va_P D vwCl (pW h ad cI hei wat dam wea dra peo rai hou bro drd lef cre gai (q_bits z.1) f) H → va_D A (pW h ad cI hei wat dam wea dra peo rai hou bro drd lef cre gai (q_bits z.1) f) → va_S A s.heap H locs → lv_has ls 5 [(0, .ref h), (1, .int (nI k)), (2, .int (nI z.2.length)), (3, .int (nI i))] → W p l e rm_X0_spreadFrom s m args below meth c H locs 0 0 Q (F0 m 9 ls []) := by
    intro fu
    induction fu with
    | zero =>
      intro i hi z f H locs ls hz hok hrow hP hD hS hl
      obtain rfl : 64 = i := by omega
      refine lv_iload_n hx hb dX0_spreadFrom_9 rfl (lv_at hl 3 rfl) ?_
      refine lv_iload_n hx hb dX0_spreadFrom_10 rfl (lv_at hl 2 rfl) ?_
      refine lv_icmp_ge (tgt := 58) hx hb dX0_spreadFrom_11 (by decide) (fun hc => ?_) (fun hc => ?_)
      · skip
        refine lv_iload_n hx hb dX0_spreadFrom_58 rfl (lv_at hl 2 rfl) ?_
        have hz : z = q_from wat sn k := hz
        rw [← hz] at fin
        exact fin (nI z.2.length) f H locs 0 0 59 ls dX0_spreadFrom_59 rfl hP hD hS (Nat.le_of_ble_eq_true rfl) (Nat.le_of_ble_eq_true rfl)
      · skip
        exact absurd (nI_le (q_ok_len hok) (by decide)) hc
    | succ fu ih =>
      intro i hi z f H locs ls hz hok hrow hP hD hS hl
      have hlt : i < 64 := by omega
      have hlen := q_ok_len hok
      refine lv_iload_n hx hb dX0_spreadFrom_9 rfl (lv_at hl 3 rfl) ?_
      refine lv_iload_n hx hb dX0_spreadFrom_10 rfl (lv_at hl 2 rfl) ?_
      refine lv_icmp_ge (tgt := 58) hx hb dX0_spreadFrom_11 (by decide) (fun hc => ?_) (fun hc => ?_)
      · skip
        have h9 : z.2.length ≤ i := nb_ge hc (by omega) (by omega)
        refine lv_iload_n hx hb dX0_spreadFrom_58 rfl (lv_at hl 2 rfl) ?_
        rw [q_spread_stop hi h9] at hz
        rw [← hz] at fin
        exact fin (nI z.2.length) f H locs 0 0 59 ls dX0_spreadFrom_59 rfl hP hD hS (Nat.le_of_ble_eq_true rfl) (Nat.le_of_ble_eq_true rfl)
      · skip
        have h9 : i < z.2.length := nb_lt hc (by omega)
        rw [q_spread_go hi h9] at hz
        have hkk : z.2.getD i 0 < 64 := q_ok_at hok h9
        generalize hkd : z.2.getD i 0 = kk at hz hkk
        refine lv_iload_n hx hb dX0_spreadFrom_14 rfl (lv_at hl 3 rfl) ?_
        refine lv_bipush (v := 64) hx hb dX0_spreadFrom_15 (by decide) ?_
        refine lv_icmp_ge (tgt := 58) hx hb dX0_spreadFrom_17 (by decide) (fun hc2 => ?_) (fun hc2 => ?_)
        · skip
          exact absurd hc2 (nI_ge (b := 64) hlt (by decide))
        · skip
          refine lv_iconst (v := 0) hx hb dX0_spreadFrom_20 (by decide) ?_
          refine lv_istore (lv' := [(4, .int 0), (0, .ref h), (1, .int (nI k)), (2, .int (nI z.2.length)), (3, .int (nI i))]) hx hb dX0_spreadFrom_21 hl (by decide) rfl (fun ls hl => ?_)
          have loop2 : ∀ (fu sd : Nat), sd + fu = 4 → ∀ (y : Ls) (f2 : Nat → Int32) (H : Heap) (locs : List Loc) (ls : Array Slot), (y = q_sides wat kk sd z) → (q_row y.2 f2) → va_P D vwCl (pW h ad cI hei wat dam wea dra peo rai hou bro drd lef cre gai (q_bits y.1) f2) H → va_D A (pW h ad cI hei wat dam wea dra peo rai hou bro drd lef cre gai (q_bits y.1) f2) → va_S A s.heap H locs → lv_has ls 5 [(0, .ref h), (1, .int (nI k)), (2, .int (nI y.2.length)), (3, .int (nI i)), (4, .int (nI sd))] → W p l e rm_X0_spreadFrom s m args below meth c H locs 0 0 Q (F0 m 23 ls []) := by
            intro fu
            induction fu with
            | zero =>
              intro sd hi4 y f2 H locs ls hy hr2 hP hD hS hl
              obtain rfl : 4 = sd := by omega
              refine lv_iload hx hb dX0_spreadFrom_23 (lv_at hl 4 rfl) ?_
              refine lv_iconst (v := 4) hx hb dX0_spreadFrom_25 (by decide) ?_
              refine lv_icmp_ge (tgt := 52) hx hb dX0_spreadFrom_26 (by decide) (fun hc3 => ?_) (fun hc3 => ?_)
              · skip
                refine lv_iinc (v := (nI (i + 1))) (lv' := [(3, .int (nI (i + 1))), (0, .ref h), (1, .int (nI k)), (2, .int (nI y.2.length)), (4, .int (nI 4))]) hx hb dX0_spreadFrom_52 hl (k := 3) rfl (nI_1 i) (by decide) rfl (fun ls hl => ?_)
                refine lv_goto (tgt := 9) hx hb dX0_spreadFrom_55 (by decide) ?_
                exact ih (i + 1) (by omega) y f2 H locs ls (by rw [hy]; exact hz) (by rw [hy]; exact q_ok_sides hkk hok 4) hr2 hP hD hS (lv_sub hl [1, 2, 3, 0] rfl)
              · skip
                exact absurd (show (4 : Int32) ≤ nI 4 by decide) hc3
            | succ fu ih =>
              intro sd hi4 y f2 H locs ls hy hr2 hP hD hS hl
              have hl4 : sd < 4 := by omega
              refine lv_iload hx hb dX0_spreadFrom_23 (lv_at hl 4 rfl) ?_
              refine lv_iconst (v := 4) hx hb dX0_spreadFrom_25 (by decide) ?_
              refine lv_icmp_ge (tgt := 52) hx hb dX0_spreadFrom_26 (by decide) (fun hc3 => ?_) (fun hc3 => ?_)
              · skip
                exact absurd hc3 (nI_ge (b := 4) hl4 (by decide))
              · skip
                have hg := q_sides_get (wat := wat) (k := kk) h9 sd
                rw [← hy] at hg
                have hoky : q_ok y := by rw [hy]; exact q_ok_sides hkk hok sd
                refine lv_aload_n hx hb dX0_spreadFrom_29 rfl (lv_at hl 0 rfl) ?_
                refine lv_aload_n hx hb dX0_spreadFrom_30 rfl (lv_at hl 0 rfl) ?_
                refine va_get (D := D) (ci := 0) (v := .ref (ad 14)) (C := RX0) (T := TX0) (N := 15) hx hb hts (fun _ h9 => (List.mem_cons_of_mem _ (List.mem_append_right _ h9))) hown hK hP 0 rfl rfl 14 (by decide) (hts (Cond.fieldLink RX0 42 "FloodGrid$Plain" "found" "[I") (List.mem_of_getElem? (i := 1) rfl)) (fun _ h9 => h9) rfl dX0_spreadFrom_31 ?_
                refine lv_iload_n hx hb dX0_spreadFrom_34 rfl (lv_at hl 3 rfl) ?_
                refine ct_iald (v := (nI kk)) hx hb hK hP 11 0 rfl rfl i rfl (by omega) (by decide) (by rw [hr2 i hg.1, hg.2, hkd]) dX0_spreadFrom_35 ?_
                refine lv_iload hx hb dX0_spreadFrom_36 (lv_at hl 4 rfl) ?_
                refine ct_Si (As := [.int (nI kk), .int (nI sd)]) (rest := [.ref h]) (wr := [(h, .inr (0, [.ref (ad 0), .ref (ad 1), .ref (ad 2), .ref (ad 3), .ref (ad 4), .ref (ad 5), .ref (ad 6), .int hou, .int bro, .int drd, .int lef, .ref (ad 11), .ref (ad 12), .ref (ad 13), .ref (ad 14)])), ((ad 0), .inl (cI, 64, .inl hei)), ((ad 1), .inl (cI, 64, .inl wat)), ((ad 2), .inl (cI, 64, .inl dam)), ((ad 3), .inl (cI, 64, .inl wea)), ((ad 4), .inl (cI, 64, .inl dra)), ((ad 5), .inl (cI, 64, .inl peo)), ((ad 6), .inl (cI, 12, .inl rai)), ((ad 11), .inl (cI, 64, .inl cre)), ((ad 12), .inl (cI, 64, .inl gai)), ((ad 13), .inl (cI, 64, .inl (q_bits y.1))), ((ad 14), .inl (cI, 64, .inl f2))]) (W1 := fun u => (pW h ad cI hei wat dam wea dra peo rai hou bro drd lef cre gai (q_bits y.1) f2)) (cells1 := 0) (slots1 := 0) ⟨hx, hb, hml, hown, hts⟩ (c_nb l D cI kk sd hkk hl4) (va_cwS 2 hts gX0_spreadFrom_X0_neighbourOf rfl rfl rfl (by decide +kernel) ⟨Nat.le_of_ble_eq_true rfl, Nat.le_of_ble_eq_true rfl⟩) hK hP hD hS hA [] [0, 1, 2, 3, 4, 5, 6, 7, 8, 9, 10, 11] ⟨rfl, rfl, rfl, rfl, rfl⟩ [0, 1, 2, 3, 4, 5, 6, 7, 8, 9, 10, 11] rfl (fun _ => rfl) [0] rfl rfl hl.1 rfl (Nat.le_of_ble_eq_true rfl) rfl rfl ⟨Nat.le_of_ble_eq_true rfl, Nat.le_of_ble_eq_true rfl⟩ dX0_spreadFrom_38 (fun r u H locs hw hP hD hS => ?_)
                subst hw
                refine lv_iload_n hx hb dX0_spreadFrom_41 rfl (lv_at hl 2 rfl) ?_
                refine ct_Vi (As := [.int (q_v (q_nb kk sd)), .int (nI y.2.length)]) (rest := []) (wr := []) (W1 := fun u => (pW h ad cI hei wat dam wea dra peo rai hou bro drd lef cre gai (q_bits (q_meet wat (q_nb kk sd) y).1) u)) (cells1 := 0) (slots1 := 0) ⟨hx, hb, hml, hown, hts⟩ (c_X0_meet l D cI h ad hei wat dam wea dra peo rai hou bro drd lef cre gai f2 (q_nb kk sd) (fun j hj => q_nb_lt hkk hj) y hoky hr2) (cwV 2 hts gX0_spreadFrom_X0_meet rfl rfl rfl (by decide +kernel) ⟨Nat.le_of_ble_eq_true rfl, Nat.le_of_ble_eq_true rfl⟩) hK hP hD hS hA [0, 1, 2, 3, 4, 5, 6, 7, 8, 9, 10, 11] [] ⟨rfl, rfl, rfl, rfl, rfl⟩ [0, 1, 2, 3, 4, 5, 6, 7, 8, 9, 10, 11] rfl (fun _ => rfl) [0] rfl (va_recv hK hP (ci := 0) (q0 := 0) rfl rfl) rfl hl.1 rfl (Nat.le_of_ble_eq_true rfl) rfl rfl ⟨Nat.le_of_ble_eq_true rfl, Nat.le_of_ble_eq_true rfl⟩ dX0_spreadFrom_42 (fun r u H locs hw hP hD hS => ?_)
                obtain ⟨rfl, hrow⟩ := hw
                refine lv_istore_n (lv' := [(2, .int (nI (q_meet wat (q_nb kk sd) y).2.length)), (0, .ref h), (1, .int (nI k)), (3, .int (nI i)), (4, .int (nI sd))]) hx hb dX0_spreadFrom_45 rfl hl (by decide) rfl (fun ls hl => ?_)
                refine lv_iinc (v := (nI (sd + 1))) (lv' := [(4, .int (nI (sd + 1))), (2, .int (nI (q_meet wat (q_nb kk sd) y).2.length)), (0, .ref h), (1, .int (nI k)), (3, .int (nI i))]) hx hb dX0_spreadFrom_46 hl (k := 4) rfl (nI_1 sd) (by decide) rfl (fun ls hl => ?_)
                refine lv_goto (tgt := 23) hx hb dX0_spreadFrom_49 (by decide) ?_
                exact ih (sd + 1) (by omega) (q_meet wat (q_nb kk sd) y) u H locs ls (by rw [hy]; rfl) hrow hP hD hS (lv_sub hl [2, 3, 1, 4, 0] rfl)
          exact loop2 4 0 (by omega) z f H locs ls rfl hrow hP hD hS (lv_sub hl [1, 2, 3, 4, 0] rfl)
  exact loop 64 0 (by omega) (q_meet wat (some k) (sn, [])) u H locs ls rfl hok hrow hP hD hS (lv_sub hl [2, 3, 1, 0] rfl)
abbrev rm_X0_lakeSize : Room := { frames := 2, cells := 0, slots := 0, locals := 47 }
set_option maxHeartbeats 4000000 in
set_option maxRecDepth 100000 in
theorem c_X0_lakeSize (l : Launch) (D : va_G) (cI : ClassId) (h : Nat) (ad : Nat → Nat) (hei wat dam wea dra peo rai : Nat → Int32) (hou bro drd lef : Int32) (cre gai see fou : Nat → Int32) (k : Nat) (hk : k < 64) : ct_i (S := (Nat → Int32) × (Nat → Int32)) l D yX0_lakeSize wsX0_lakeSize rm_X0_lakeSize [.ref h, .int (nI k)] (pW h ad cI hei wat dam wea dra peo rai hou bro drd lef cre gai see fou) [(cI, .int)] (fun r _ => r = q_lakeSize wat k) (fun u => (pW h ad cI hei wat dam wea dra peo rai hou bro drd lef cre gai u.1 u.2)) := by
  refine ct_ofi (cc := cX0_lakeSize) (maxL := 2) (by decide) rfl (Nat.le_of_ble_eq_true rfl) ?_
  intro p e s m args below meth c A Q hx hb hml hown hts hin hA hK H locs hP hD hS fin ls hl
  have hown : s.vm.findClass RX0 = some m.cls := hown
  have hl : lv_has ls 2 [(0, .ref h), (1, .int (nI k))] := hl
  refine lv_aload_n hx hb dX0_lakeSize_0 rfl (lv_at hl 0 rfl) ?_
  refine va_get (D := D) (ci := 0) (v := .ref (ad 13)) (C := RX0) (T := TX0) (N := 15) hx hb hts (fun _ h9 => (List.mem_cons_of_mem _ (List.mem_append_right _ h9))) hown hK hP 0 rfl rfl 13 (by decide) (hts (Cond.fieldLink RX0 39 "FloodGrid$Plain" "seen" "[I") (List.mem_of_getElem? (i := 1) rfl)) (fun _ h9 => h9) rfl dX0_lakeSize_1 ?_
  refine lv_iconst (v := 0) hx hb dX0_lakeSize_4 (by decide) ?_
  refine ct_Sv (As := [.ref (ad 13), .int 0]) (rest := []) (wr := [(h, .inr (0, [.ref (ad 0), .ref (ad 1), .ref (ad 2), .ref (ad 3), .ref (ad 4), .ref (ad 5), .ref (ad 6), .int hou, .int bro, .int drd, .int lef, .ref (ad 11), .ref (ad 12), .ref (ad 13), .ref (ad 14)])), ((ad 0), .inl (cI, 64, .inl hei)), ((ad 1), .inl (cI, 64, .inl wat)), ((ad 2), .inl (cI, 64, .inl dam)), ((ad 3), .inl (cI, 64, .inl wea)), ((ad 4), .inl (cI, 64, .inl dra)), ((ad 5), .inl (cI, 64, .inl peo)), ((ad 6), .inl (cI, 12, .inl rai)), ((ad 11), .inl (cI, 64, .inl cre)), ((ad 12), .inl (cI, 64, .inl gai)), ((ad 14), .inl (cI, 64, .inl fou))]) (W1 := fun u => (pW h ad cI hei wat dam wea dra peo rai hou bro drd lef cre gai (q_bits (fun _ => false)) fou)) (cells1 := 0) (slots1 := 0) ⟨hx, hb, hml, hown, hts⟩ (c_fill l D cI (ad 13) 64 (by decide) see 0) (va_cwS 2 hts gX0_lakeSize_J7_fill_53178 rfl rfl rfl (by decide +kernel) ⟨Nat.le_of_ble_eq_true rfl, Nat.le_of_ble_eq_true rfl⟩) hK hP hD hS hA [10] [0, 1, 2, 3, 4, 5, 6, 7, 8, 9, 11] ⟨rfl, rfl, rfl, rfl, rfl⟩ [0, 1, 2, 3, 4, 5, 6, 7, 8, 9, 11, 10] rfl (fun _ => rfl) [0] rfl rfl hl.1 rfl (Nat.le_of_ble_eq_true rfl) rfl rfl ⟨Nat.le_of_ble_eq_true rfl, Nat.le_of_ble_eq_true rfl⟩ dX0_lakeSize_5 (fun u H locs hw hP hD hS => ?_)
  refine lv_aload_n hx hb dX0_lakeSize_8 rfl (lv_at hl 0 rfl) ?_
  refine lv_iload_n hx hb dX0_lakeSize_9 rfl (lv_at hl 1 rfl) ?_
  refine ct_Vi (As := [.int (nI k)]) (rest := []) (wr := []) (W1 := fun u => (pW h ad cI hei wat dam wea dra peo rai hou bro drd lef cre gai (q_bits (q_from wat (fun _ => false) k).1) u)) (cells1 := 0) (slots1 := 0) ⟨hx, hb, hml, hown, hts⟩ (c_X0_spread l D cI h ad hei wat dam wea dra peo rai hou bro drd lef cre gai fou (fun _ => false) k hk) (cwV 1 hts gX0_lakeSize_X0_spreadFrom rfl rfl rfl (by decide +kernel) ⟨Nat.le_of_ble_eq_true rfl, Nat.le_of_ble_eq_true rfl⟩) hK hP hD hS hA [0, 1, 2, 3, 4, 5, 6, 7, 8, 9, 10, 11] [] ⟨rfl, rfl, rfl, rfl, rfl⟩ [0, 1, 2, 3, 4, 5, 6, 7, 8, 9, 10, 11] rfl (fun _ => rfl) [0] rfl (va_recv hK hP (ci := 0) (q0 := 0) rfl rfl) rfl hl.1 rfl (Nat.le_of_ble_eq_true rfl) rfl rfl ⟨Nat.le_of_ble_eq_true rfl, Nat.le_of_ble_eq_true rfl⟩ dX0_lakeSize_10 (fun r u H locs hw hP hD hS => ?_)
  exact fin r (q_bits (q_from wat (fun _ => false) k).1, u) H locs 0 0 13 ls dX0_lakeSize_13 hw hP hD hS (Nat.le_of_ble_eq_true rfl) (Nat.le_of_ble_eq_true rfl)
theorem q_lakes_eq (wat : Nat → Int32) : nI (q_lakesS wat 64).2 = q_lakes wat := by unfold q_lakes; exact Eq.refl _
abbrev rm_X0_lakes : Room := { frames := 2, cells := 0, slots := 0, locals := 47 }
set_option maxHeartbeats 4000000 in
set_option maxRecDepth 100000 in
theorem c_X0_lakes (l : Launch) (D : va_G) (cI : ClassId) (h : Nat) (ad : Nat → Nat) (hei wat dam wea dra peo rai : Nat → Int32) (hou bro drd lef : Int32) (cre gai see fou : Nat → Int32) : ct_i (S := (Nat → Int32) × (Nat → Int32)) l D yX0_lakes wsX0_lakes rm_X0_lakes [.ref h] (pW h ad cI hei wat dam wea dra peo rai hou bro drd lef cre gai see fou) [(cI, .int)] (fun r _ => r = q_lakes wat) (fun u => (pW h ad cI hei wat dam wea dra peo rai hou bro drd lef cre gai u.1 u.2)) := by
  refine ct_ofi (cc := cX0_lakes) (maxL := 3) (by decide) rfl (Nat.le_of_ble_eq_true rfl) ?_
  intro p e s m args below meth c A Q hx hb hml hown hts hin hA hK H locs hP hD hS fin ls hl
  have hown : s.vm.findClass RX0 = some m.cls := hown
  have hl : lv_has ls 3 [(0, .ref h)] := hl
  refine lv_aload_n hx hb dX0_lakes_0 rfl (lv_at hl 0 rfl) ?_
  refine va_get (D := D) (ci := 0) (v := .ref (ad 13)) (C := RX0) (T := TX0) (N := 15) hx hb hts (fun _ h9 => (List.mem_cons_of_mem _ (List.mem_append_right _ h9))) hown hK hP 0 rfl rfl 13 (by decide) (hts (Cond.fieldLink RX0 39 "FloodGrid$Plain" "seen" "[I") (List.mem_of_getElem? (i := 1) rfl)) (fun _ h9 => h9) rfl dX0_lakes_1 ?_
  refine lv_iconst (v := 0) hx hb dX0_lakes_4 (by decide) ?_
  refine ct_Sv (As := [.ref (ad 13), .int 0]) (rest := []) (wr := [(h, .inr (0, [.ref (ad 0), .ref (ad 1), .ref (ad 2), .ref (ad 3), .ref (ad 4), .ref (ad 5), .ref (ad 6), .int hou, .int bro, .int drd, .int lef, .ref (ad 11), .ref (ad 12), .ref (ad 13), .ref (ad 14)])), ((ad 0), .inl (cI, 64, .inl hei)), ((ad 1), .inl (cI, 64, .inl wat)), ((ad 2), .inl (cI, 64, .inl dam)), ((ad 3), .inl (cI, 64, .inl wea)), ((ad 4), .inl (cI, 64, .inl dra)), ((ad 5), .inl (cI, 64, .inl peo)), ((ad 6), .inl (cI, 12, .inl rai)), ((ad 11), .inl (cI, 64, .inl cre)), ((ad 12), .inl (cI, 64, .inl gai)), ((ad 14), .inl (cI, 64, .inl fou))]) (W1 := fun u => (pW h ad cI hei wat dam wea dra peo rai hou bro drd lef cre gai (q_bits (fun _ => false)) fou)) (cells1 := 0) (slots1 := 0) ⟨hx, hb, hml, hown, hts⟩ (c_fill l D cI (ad 13) 64 (by decide) see 0) (va_cwS 2 hts gX0_lakes_J7_fill_53178 rfl rfl rfl (by decide +kernel) ⟨Nat.le_of_ble_eq_true rfl, Nat.le_of_ble_eq_true rfl⟩) hK hP hD hS hA [10] [0, 1, 2, 3, 4, 5, 6, 7, 8, 9, 11] ⟨rfl, rfl, rfl, rfl, rfl⟩ [0, 1, 2, 3, 4, 5, 6, 7, 8, 9, 11, 10] rfl (fun _ => rfl) [0] rfl rfl hl.1 rfl (Nat.le_of_ble_eq_true rfl) rfl rfl ⟨Nat.le_of_ble_eq_true rfl, Nat.le_of_ble_eq_true rfl⟩ dX0_lakes_5 (fun u H locs hw hP hD hS => ?_)
  refine lv_iconst (v := 0) hx hb dX0_lakes_8 (by decide) ?_
  refine lv_istore_n (lv' := [(1, .int 0), (0, .ref h)]) hx hb dX0_lakes_9 rfl hl (by decide) rfl (fun ls hl => ?_)
  refine lv_iconst (v := 0) hx hb dX0_lakes_10 (by decide) ?_
  refine lv_istore_n (lv' := [(2, .int 0), (1, .int 0), (0, .ref h)]) hx hb dX0_lakes_11 rfl hl (by decide) rfl (fun ls hl => ?_)
  have loop : ∀ (fu i : Nat), i + fu = 64 → ∀ (y : (Nat → Bool) × Nat) (f : Nat → Int32) (H : Heap) (locs : List Loc) (ls : Array Slot), (y = q_lakesS wat i) → va_P D vwCl (pW h ad cI hei wat dam wea dra peo rai hou bro drd lef cre gai (q_bits y.1) f) H → va_D A (pW h ad cI hei wat dam wea dra peo rai hou bro drd lef cre gai (q_bits y.1) f) → va_S A s.heap H locs → lv_has ls 3 [(0, .ref h), (1, .int (nI y.2)), (2, .int (nI i))] → W p l e rm_X0_lakes s m args below meth c H locs 0 0 Q (F0 m 12 ls []) := by
    intro fu
    induction fu with
    | zero =>
      intro i hi y f H locs ls hy hP hD hS hl
      obtain rfl : 64 = i := by omega
      refine lv_iload_n hx hb dX0_lakes_12 rfl (lv_at hl 2 rfl) ?_
      refine lv_bipush (v := 64) hx hb dX0_lakes_13 (by decide) ?_
      refine lv_icmp_ge (tgt := 35) hx hb dX0_lakes_15 (by decide) (fun hc => ?_) (fun hc => ?_)
      · skip
        refine lv_iload_n hx hb dX0_lakes_35 rfl (lv_at hl 1 rfl) ?_
        exact fin (nI y.2) (q_bits y.1, f) H locs 0 0 36 ls dX0_lakes_36 (by rw [hy]; exact q_lakes_eq wat) hP hD hS (Nat.le_of_ble_eq_true rfl) (Nat.le_of_ble_eq_true rfl)
      · skip
        exact absurd (show (64 : Int32) ≤ nI 64 by decide) hc
    | succ fu ih =>
      intro i hi y f H locs ls hy hP hD hS hl
      have hlt : i < 64 := by omega
      refine lv_iload_n hx hb dX0_lakes_12 rfl (lv_at hl 2 rfl) ?_
      refine lv_bipush (v := 64) hx hb dX0_lakes_13 (by decide) ?_
      refine lv_icmp_ge (tgt := 35) hx hb dX0_lakes_15 (by decide) (fun hc => ?_) (fun hc => ?_)
      · skip
        exact absurd hc (nI_ge (b := 64) hlt (by decide))
      · skip
        refine lv_aload_n hx hb dX0_lakes_18 rfl (lv_at hl 0 rfl) ?_
        refine lv_iload_n hx hb dX0_lakes_19 rfl (lv_at hl 2 rfl) ?_
        refine ct_Vi (As := [.int (nI i)]) (rest := []) (wr := []) (W1 := fun u => (pW h ad cI hei wat dam wea dra peo rai hou bro drd lef cre gai (q_bits (q_from wat y.1 i).1) u)) (cells1 := 0) (slots1 := 0) ⟨hx, hb, hml, hown, hts⟩ (c_X0_spread l D cI h ad hei wat dam wea dra peo rai hou bro drd lef cre gai f y.1 i hlt) (cwV 1 hts gX0_lakes_X0_spreadFrom rfl rfl rfl (by decide +kernel) ⟨Nat.le_of_ble_eq_true rfl, Nat.le_of_ble_eq_true rfl⟩) hK hP hD hS hA [0, 1, 2, 3, 4, 5, 6, 7, 8, 9, 10, 11] [] ⟨rfl, rfl, rfl, rfl, rfl⟩ [0, 1, 2, 3, 4, 5, 6, 7, 8, 9, 10, 11] rfl (fun _ => rfl) [0] rfl (va_recv hK hP (ci := 0) (q0 := 0) rfl rfl) rfl hl.1 rfl (Nat.le_of_ble_eq_true rfl) rfl rfl ⟨Nat.le_of_ble_eq_true rfl, Nat.le_of_ble_eq_true rfl⟩ dX0_lakes_20 (fun r u H locs hw hP hD hS => ?_)
        subst hw
        have hfl : (q_from wat y.1 i).2.length < 2 ^ 31 := Nat.lt_of_le_of_lt (q_from_len wat y.1 hlt) (by decide)
        refine lv_if_le (tgt := 29) hx hb dX0_lakes_23 (by decide) (fun hc2 => ?_) (fun hc2 => ?_)
        · skip
          refine lv_iinc (v := (nI (i + 1))) (lv' := [(2, .int (nI (i + 1))), (0, .ref h), (1, .int (nI y.2))]) hx hb dX0_lakes_29 hl (k := 2) rfl (nI_1 i) (by decide) rfl (fun ls hl => ?_)
          refine lv_goto (tgt := 12) hx hb dX0_lakes_32 (by decide) ?_
          exact ih (i + 1) (by omega) ((q_from wat y.1 i).1, y.2) u H locs ls (by rw [hy]; simp only [q_lakesS]; rw [← hy, if_neg (by have := nb_le hc2 hfl; omega)]) hP hD hS (lv_sub hl [1, 2, 0] rfl)
        · skip
          refine lv_iinc (v := (nI (y.2 + 1))) (lv' := [(1, .int (nI (y.2 + 1))), (0, .ref h), (2, .int (nI i))]) hx hb dX0_lakes_26 hl (k := 1) rfl (nI_1 y.2) (by decide) rfl (fun ls hl => ?_)
          refine lv_iinc (v := (nI (i + 1))) (lv' := [(2, .int (nI (i + 1))), (1, .int (nI (y.2 + 1))), (0, .ref h)]) hx hb dX0_lakes_29 hl (k := 2) rfl (nI_1 i) (by decide) rfl (fun ls hl => ?_)
          refine lv_goto (tgt := 12) hx hb dX0_lakes_32 (by decide) ?_
          exact ih (i + 1) (by omega) ((q_from wat y.1 i).1, y.2 + 1) u H locs ls (by rw [hy]; simp only [q_lakesS]; rw [← hy, if_pos (nb_pos hc2)]) hP hD hS (lv_sub hl [2, 1, 0] rfl)
  exact loop 64 0 (by omega) ((fun _ => false), 0) fou H locs ls rfl hP hD hS (lv_sub hl [2, 1, 0] rfl)
end
section
abbrev rm_X0_tally : Room := { frames := 3, cells := 0, slots := 0, locals := 69 }
set_option maxHeartbeats 4000000 in
set_option maxRecDepth 100000 in
theorem c_X0_tally (l : Launch) (D : va_G) (cI : ClassId) (h : Nat) (ad : Nat → Nat) (hei dra rai : Nat → Int32) (σ : Ms) (cre gai see fou : Nat → Int32) (wh : Nat) (hwh : wh < 9) : ct_i (S := (Nat → Int32) × (Nat → Int32)) l D yX0_tally wsX0_tally rm_X0_tally [.ref h, .int (nI wh)] (pM h ad cI hei dra rai σ cre gai see fou) [(cI, .int)] (fun r _ => r = q_tally σ wh) (fun u => (pM h ad cI hei dra rai σ cre gai u.1 u.2)) := by
  refine ct_ofi (cc := cX0_tally) (maxL := 2) (by decide) rfl (Nat.le_of_ble_eq_true rfl) ?_
  intro p e s m args below meth c A Q hx hb hml hown hts hin hA hK H locs hP hD hS fin ls hl
  have hown : s.vm.findClass RX0 = some m.cls := hown
  have hl : lv_has ls 2 [(0, .ref h), (1, .int (nI wh))] := hl
  refine lv_iload_n hx hb dX0_tally_0 rfl (lv_at hl 1 rfl) ?_
  rcases (show wh = 0 ∨ wh = 1 ∨ wh = 2 ∨ wh = 3 ∨ wh = 4 ∨ wh = 5 ∨ wh = 6 ∨ wh = 7 ∨ wh = 8 by omega) with rfl | rfl | rfl | rfl | rfl | rfl | rfl | rfl | rfl
  · skip
    refine lv_tableIn (tgt := 48) hx hb dX0_tally_1 (by decide) (by decide) rfl (by decide) ?_
    refine lv_aload_n hx hb dX0_tally_48 rfl (lv_at hl 0 rfl) ?_
    refine va_get (D := D) (ci := 0) (v := .int (nI (m_t σ))) (C := RX0) (T := TX0) (N := 15) hx hb hts (fun _ h9 => (List.mem_cons_of_mem _ (List.mem_append_right _ h9))) hown hK hP 0 rfl rfl 7 (by decide) (hts (Cond.fieldLink RX0 57 "FloodGrid$Plain" "hour" "I") (List.mem_of_getElem? (i := 1) rfl)) (fun _ h9 => h9) rfl dX0_tally_49 ?_
    exact fin (nI (m_t σ)) (see, fou) H locs 0 0 52 ls dX0_tally_52 rfl hP hD hS (Nat.le_of_ble_eq_true rfl) (Nat.le_of_ble_eq_true rfl)
  · skip
    refine lv_tableIn (tgt := 53) hx hb dX0_tally_1 (by decide) (by decide) rfl (by decide) ?_
    refine lv_aload_n hx hb dX0_tally_53 rfl (lv_at hl 0 rfl) ?_
    refine lv_aload_n hx hb dX0_tally_54 rfl (lv_at hl 0 rfl) ?_
    refine va_get (D := D) (ci := 0) (v := .ref (ad 1)) (C := RX0) (T := TX0) (N := 15) hx hb hts (fun _ h9 => (List.mem_cons_of_mem _ (List.mem_append_right _ h9))) hown hK hP 0 rfl rfl 1 (by decide) (hts (Cond.fieldLink RX0 15 "FloodGrid$Plain" "water" "[I") (List.mem_of_getElem? (i := 2) rfl)) (fun _ h9 => h9) rfl dX0_tally_55 ?_
    refine ct_Vi (As := [.ref (ad 1)]) (rest := []) (wr := [(h, .inr (0, [.ref (ad 0), .ref (ad 1), .ref (ad 2), .ref (ad 3), .ref (ad 4), .ref (ad 5), .ref (ad 6), .int (nI (m_t σ)), .int (m_bro σ), .int (m_drd σ), .int (m_lef σ), .ref (ad 11), .ref (ad 12), .ref (ad 13), .ref (ad 14)])), ((ad 0), .inl (cI, 64, .inl hei)), ((ad 2), .inl (cI, 64, .inl (m_dam σ))), ((ad 3), .inl (cI, 64, .inl (m_wea σ))), ((ad 4), .inl (cI, 64, .inl dra)), ((ad 5), .inl (cI, 64, .inl (m_peo σ))), ((ad 6), .inl (cI, 12, .inl rai)), ((ad 11), .inl (cI, 64, .inl cre)), ((ad 12), .inl (cI, 64, .inl gai)), ((ad 13), .inl (cI, 64, .inl see)), ((ad 14), .inl (cI, 64, .inl fou))]) (W1 := fun u => (pM h ad cI hei dra rai σ cre gai see fou)) (cells1 := 0) (slots1 := 0) ⟨hx, hb, hml, hown, hts⟩ (c_X0_sum l D cI h (ad 1) 64 (by decide) (m_wat σ)) (cwV 1 hts gX0_tally_X0_sum rfl rfl rfl (by decide +kernel) ⟨Nat.le_of_ble_eq_true rfl, Nat.le_of_ble_eq_true rfl⟩) hK hP hD hS hA [2] [0, 1, 3, 4, 5, 6, 7, 8, 9, 10, 11] ⟨rfl, rfl, rfl, rfl, rfl⟩ [0, 1, 11, 2, 3, 4, 5, 6, 7, 8, 9, 10] rfl (fun _ => rfl) [0] rfl (va_recv hK hP (ci := 0) (q0 := 0) rfl rfl) rfl hl.1 rfl (Nat.le_of_ble_eq_true rfl) rfl rfl ⟨Nat.le_of_ble_eq_true rfl, Nat.le_of_ble_eq_true rfl⟩ dX0_tally_58 (fun r u H locs hw hP hD hS => ?_)
    exact fin r (see, fou) H locs 0 0 61 ls dX0_tally_61 hw hP hD hS (Nat.le_of_ble_eq_true rfl) (Nat.le_of_ble_eq_true rfl)
  · skip
    refine lv_tableIn (tgt := 62) hx hb dX0_tally_1 (by decide) (by decide) rfl (by decide) ?_
    refine lv_aload_n hx hb dX0_tally_62 rfl (lv_at hl 0 rfl) ?_
    refine ct_Vi (As := []) (rest := []) (wr := []) (W1 := fun u => (pM h ad cI hei dra rai σ cre gai see fou)) (cells1 := 0) (slots1 := 0) ⟨hx, hb, hml, hown, hts⟩ (c_X0_wet l D cI h ad hei (m_wat σ) (m_dam σ) (m_wea σ) dra (m_peo σ) rai (nI (m_t σ)) (m_bro σ) (m_drd σ) (m_lef σ) cre gai see fou) (cwV 0 hts gX0_tally_X0_wetCells rfl rfl rfl (by decide +kernel) ⟨Nat.le_of_ble_eq_true rfl, Nat.le_of_ble_eq_true rfl⟩) hK hP hD hS hA [0, 1, 2, 3, 4, 5, 6, 7, 8, 9, 10, 11] [] ⟨rfl, rfl, rfl, rfl, rfl⟩ [0, 1, 2, 3, 4, 5, 6, 7, 8, 9, 10, 11] rfl (fun _ => rfl) [0] rfl (va_recv hK hP (ci := 0) (q0 := 0) rfl rfl) rfl hl.1 rfl (Nat.le_of_ble_eq_true rfl) rfl rfl ⟨Nat.le_of_ble_eq_true rfl, Nat.le_of_ble_eq_true rfl⟩ dX0_tally_63 (fun r u H locs hw hP hD hS => ?_)
    exact fin r (see, fou) H locs 0 0 66 ls dX0_tally_66 hw hP hD hS (Nat.le_of_ble_eq_true rfl) (Nat.le_of_ble_eq_true rfl)
  · skip
    refine lv_tableIn (tgt := 67) hx hb dX0_tally_1 (by decide) (by decide) rfl (by decide) ?_
    refine lv_aload_n hx hb dX0_tally_67 rfl (lv_at hl 0 rfl) ?_
    refine lv_aload_n hx hb dX0_tally_68 rfl (lv_at hl 0 rfl) ?_
    refine va_get (D := D) (ci := 0) (v := .ref (ad 2)) (C := RX0) (T := TX0) (N := 15) hx hb hts (fun _ h9 => (List.mem_cons_of_mem _ (List.mem_append_right _ h9))) hown hK hP 0 rfl rfl 2 (by decide) (hts (Cond.fieldLink RX0 18 "FloodGrid$Plain" "dam" "[I") (List.mem_of_getElem? (i := 3) rfl)) (fun _ h9 => h9) rfl dX0_tally_69 ?_
    refine ct_Vi (As := [.ref (ad 2)]) (rest := []) (wr := [(h, .inr (0, [.ref (ad 0), .ref (ad 1), .ref (ad 2), .ref (ad 3), .ref (ad 4), .ref (ad 5), .ref (ad 6), .int (nI (m_t σ)), .int (m_bro σ), .int (m_drd σ), .int (m_lef σ), .ref (ad 11), .ref (ad 12), .ref (ad 13), .ref (ad 14)])), ((ad 0), .inl (cI, 64, .inl hei)), ((ad 1), .inl (cI, 64, .inl (m_wat σ))), ((ad 3), .inl (cI, 64, .inl (m_wea σ))), ((ad 4), .inl (cI, 64, .inl dra)), ((ad 5), .inl (cI, 64, .inl (m_peo σ))), ((ad 6), .inl (cI, 12, .inl rai)), ((ad 11), .inl (cI, 64, .inl cre)), ((ad 12), .inl (cI, 64, .inl gai)), ((ad 13), .inl (cI, 64, .inl see)), ((ad 14), .inl (cI, 64, .inl fou))]) (W1 := fun u => (pM h ad cI hei dra rai σ cre gai see fou)) (cells1 := 0) (slots1 := 0) ⟨hx, hb, hml, hown, hts⟩ (c_X0_above0 l D cI h (ad 2) 64 (by decide) (m_dam σ)) (cwV 1 hts gX0_tally_X0_above0 rfl rfl rfl (by decide +kernel) ⟨Nat.le_of_ble_eq_true rfl, Nat.le_of_ble_eq_true rfl⟩) hK hP hD hS hA [3] [0, 1, 2, 4, 5, 6, 7, 8, 9, 10, 11] ⟨rfl, rfl, rfl, rfl, rfl⟩ [0, 1, 2, 11, 3, 4, 5, 6, 7, 8, 9, 10] rfl (fun _ => rfl) [0] rfl (va_recv hK hP (ci := 0) (q0 := 0) rfl rfl) rfl hl.1 rfl (Nat.le_of_ble_eq_true rfl) rfl rfl ⟨Nat.le_of_ble_eq_true rfl, Nat.le_of_ble_eq_true rfl⟩ dX0_tally_72 (fun r u H locs hw hP hD hS => ?_)
    exact fin r (see, fou) H locs 0 0 75 ls dX0_tally_75 hw hP hD hS (Nat.le_of_ble_eq_true rfl) (Nat.le_of_ble_eq_true rfl)
  · skip
    refine lv_tableIn (tgt := 76) hx hb dX0_tally_1 (by decide) (by decide) rfl (by decide) ?_
    refine lv_aload_n hx hb dX0_tally_76 rfl (lv_at hl 0 rfl) ?_
    refine va_get (D := D) (ci := 0) (v := .int (m_bro σ)) (C := RX0) (T := TX0) (N := 15) hx hb hts (fun _ h9 => (List.mem_cons_of_mem _ (List.mem_append_right _ h9))) hown hK hP 0 rfl rfl 8 (by decide) (hts (Cond.fieldLink RX0 61 "FloodGrid$Plain" "broken" "I") (List.mem_of_getElem? (i := 4) rfl)) (fun _ h9 => h9) rfl dX0_tally_77 ?_
    exact fin (m_bro σ) (see, fou) H locs 0 0 80 ls dX0_tally_80 rfl hP hD hS (Nat.le_of_ble_eq_true rfl) (Nat.le_of_ble_eq_true rfl)
  · skip
    refine lv_tableIn (tgt := 81) hx hb dX0_tally_1 (by decide) (by decide) rfl (by decide) ?_
    refine lv_aload_n hx hb dX0_tally_81 rfl (lv_at hl 0 rfl) ?_
    refine va_get (D := D) (ci := 0) (v := .int (m_drd σ)) (C := RX0) (T := TX0) (N := 15) hx hb hts (fun _ h9 => (List.mem_cons_of_mem _ (List.mem_append_right _ h9))) hown hK hP 0 rfl rfl 9 (by decide) (hts (Cond.fieldLink RX0 64 "FloodGrid$Plain" "drained" "I") (List.mem_of_getElem? (i := 5) rfl)) (fun _ h9 => h9) rfl dX0_tally_82 ?_
    exact fin (m_drd σ) (see, fou) H locs 0 0 85 ls dX0_tally_85 rfl hP hD hS (Nat.le_of_ble_eq_true rfl) (Nat.le_of_ble_eq_true rfl)
  · skip
    refine lv_tableIn (tgt := 86) hx hb dX0_tally_1 (by decide) (by decide) rfl (by decide) ?_
    refine lv_aload_n hx hb dX0_tally_86 rfl (lv_at hl 0 rfl) ?_
    refine lv_aload_n hx hb dX0_tally_87 rfl (lv_at hl 0 rfl) ?_
    refine va_get (D := D) (ci := 0) (v := .ref (ad 5)) (C := RX0) (T := TX0) (N := 15) hx hb hts (fun _ h9 => (List.mem_cons_of_mem _ (List.mem_append_right _ h9))) hown hK hP 0 rfl rfl 5 (by decide) (hts (Cond.fieldLink RX0 27 "FloodGrid$Plain" "people" "[I") (List.mem_of_getElem? (i := 6) rfl)) (fun _ h9 => h9) rfl dX0_tally_88 ?_
    refine ct_Vi (As := [.ref (ad 5)]) (rest := []) (wr := [(h, .inr (0, [.ref (ad 0), .ref (ad 1), .ref (ad 2), .ref (ad 3), .ref (ad 4), .ref (ad 5), .ref (ad 6), .int (nI (m_t σ)), .int (m_bro σ), .int (m_drd σ), .int (m_lef σ), .ref (ad 11), .ref (ad 12), .ref (ad 13), .ref (ad 14)])), ((ad 0), .inl (cI, 64, .inl hei)), ((ad 1), .inl (cI, 64, .inl (m_wat σ))), ((ad 2), .inl (cI, 64, .inl (m_dam σ))), ((ad 3), .inl (cI, 64, .inl (m_wea σ))), ((ad 4), .inl (cI, 64, .inl dra)), ((ad 6), .inl (cI, 12, .inl rai)), ((ad 11), .inl (cI, 64, .inl cre)), ((ad 12), .inl (cI, 64, .inl gai)), ((ad 13), .inl (cI, 64, .inl see)), ((ad 14), .inl (cI, 64, .inl fou))]) (W1 := fun u => (pM h ad cI hei dra rai σ cre gai see fou)) (cells1 := 0) (slots1 := 0) ⟨hx, hb, hml, hown, hts⟩ (c_X0_sum l D cI h (ad 5) 64 (by decide) (m_peo σ)) (cwV 1 hts gX0_tally_X0_sum rfl rfl rfl (by decide +kernel) ⟨Nat.le_of_ble_eq_true rfl, Nat.le_of_ble_eq_true rfl⟩) hK hP hD hS hA [6] [0, 1, 2, 3, 4, 5, 7, 8, 9, 10, 11] ⟨rfl, rfl, rfl, rfl, rfl⟩ [0, 1, 2, 3, 4, 5, 11, 6, 7, 8, 9, 10] rfl (fun _ => rfl) [0] rfl (va_recv hK hP (ci := 0) (q0 := 0) rfl rfl) rfl hl.1 rfl (Nat.le_of_ble_eq_true rfl) rfl rfl ⟨Nat.le_of_ble_eq_true rfl, Nat.le_of_ble_eq_true rfl⟩ dX0_tally_91 (fun r u H locs hw hP hD hS => ?_)
    exact fin r (see, fou) H locs 0 0 94 ls dX0_tally_94 hw hP hD hS (Nat.le_of_ble_eq_true rfl) (Nat.le_of_ble_eq_true rfl)
  · skip
    refine lv_tableIn (tgt := 95) hx hb dX0_tally_1 (by decide) (by decide) rfl (by decide) ?_
    refine lv_aload_n hx hb dX0_tally_95 rfl (lv_at hl 0 rfl) ?_
    refine va_get (D := D) (ci := 0) (v := .int (m_lef σ)) (C := RX0) (T := TX0) (N := 15) hx hb hts (fun _ h9 => (List.mem_cons_of_mem _ (List.mem_append_right _ h9))) hown hK hP 0 rfl rfl 10 (by decide) (hts (Cond.fieldLink RX0 67 "FloodGrid$Plain" "left" "I") (List.mem_of_getElem? (i := 7) rfl)) (fun _ h9 => h9) rfl dX0_tally_96 ?_
    exact fin (m_lef σ) (see, fou) H locs 0 0 99 ls dX0_tally_99 rfl hP hD hS (Nat.le_of_ble_eq_true rfl) (Nat.le_of_ble_eq_true rfl)
  · skip
    refine lv_tableOut (tgt := 100) hx hb dX0_tally_1 (Or.inr (by decide)) (by decide) ?_
    refine lv_aload_n hx hb dX0_tally_100 rfl (lv_at hl 0 rfl) ?_
    refine ct_Vi (As := []) (rest := []) (wr := []) (W1 := fun u => (pM h ad cI hei dra rai σ cre gai u.1 u.2)) (cells1 := 0) (slots1 := 0) ⟨hx, hb, hml, hown, hts⟩ (c_X0_lakes l D cI h ad hei (m_wat σ) (m_dam σ) (m_wea σ) dra (m_peo σ) rai (nI (m_t σ)) (m_bro σ) (m_drd σ) (m_lef σ) cre gai see fou) (cwV 0 hts gX0_tally_X0_lakes rfl rfl rfl (by decide +kernel) ⟨Nat.le_of_ble_eq_true rfl, Nat.le_of_ble_eq_true rfl⟩) hK hP hD hS hA [0, 1, 2, 3, 4, 5, 6, 7, 8, 9, 10, 11] [] ⟨rfl, rfl, rfl, rfl, rfl⟩ [0, 1, 2, 3, 4, 5, 6, 7, 8, 9, 10, 11] rfl (fun _ => rfl) [0] rfl (va_recv hK hP (ci := 0) (q0 := 0) rfl rfl) rfl hl.1 rfl (Nat.le_of_ble_eq_true rfl) rfl rfl ⟨Nat.le_of_ble_eq_true rfl, Nat.le_of_ble_eq_true rfl⟩ dX0_tally_101 (fun r u H locs hw hP hD hS => ?_)
    exact fin r (u.1, u.2) H locs 0 0 104 ls dX0_tally_104 hw hP hD hS (Nat.le_of_ble_eq_true rfl) (Nat.le_of_ble_eq_true rfl)
end
section
/-- what a throw needs: the two texts, what the tables say of the two kinds, and the two statics of Throwable, none of them in the world -/
def ct_TF (sa1 sa2 : Nat) (U : State) : Prop := vk_R RX1 101 "no such cell, hour or number" sa1 U ∧ vk_R RX1 108 "a number out of its bounds" sa2 U ∧ va_Nw (.castable "java/lang/IndexOutOfBoundsException" "java/lang/IndexOutOfBoundsException") U ∧ va_Nw (.castable "java/lang/IllegalArgumentException" "java/lang/IllegalArgumentException") U ∧ va_Nw (.declares (Bundle.initS "java/lang/RuntimeException")) U ∧ va_Nw (.declares (Bundle.initS "java/lang/Exception")) U ∧ va_Nw (.declares (Bundle.initS "java/lang/Throwable")) U ∧ va_Nc "java/lang/IllegalArgumentException" "java/lang/IndexOutOfBoundsException" U ∧ va_Nc "java/lang/IndexOutOfBoundsException" "java/lang/IllegalArgumentException" U
def ct_T (sa1 sa2 : Nat) (A : Nat → Prop) (U : State) (H : Heap) : Prop := ct_TF sa1 sa2 U ∧ vx_Zq Bundle.tN "UNASSIGNED_STACK" Bundle.steD A U H ∧ vx_Zq Bundle.tN "SUPPRESSED_SENTINEL" Bundle.listD A U H
theorem ct_TF.warm {sa1 sa2 : Nat} {s U : State} (h : ct_TF sa1 sa2 s) (hW : s.WarmedH U.vm) : ct_TF sa1 sa2 U := ⟨h.1.warm hW, h.2.1.warm hW, h.2.2.1.warmC hW, h.2.2.2.1.warmC hW, h.2.2.2.2.1.warmD hW, h.2.2.2.2.2.1.warmD hW, h.2.2.2.2.2.2.1.warmD hW, h.2.2.2.2.2.2.2.1.moved hW.alike, h.2.2.2.2.2.2.2.2.moved hW.alike⟩
theorem ct_TF.same {sa1 sa2 : Nat} {s U : State} (hv : U.vm = s.vm) (h : ct_TF sa1 sa2 s) : ct_TF sa1 sa2 U := ⟨vk_R.same hv h.1, vk_R.same hv h.2.1, va_Nw.same rfl hv.symm h.2.2.1, va_Nw.same rfl hv.symm h.2.2.2.1, va_Nw.same rfl hv.symm h.2.2.2.2.1, va_Nw.same rfl hv.symm h.2.2.2.2.2.1, va_Nw.same rfl hv.symm h.2.2.2.2.2.2.1, h.2.2.2.2.2.2.2.1.moved (by rw [hv]; exact Vm.Alike.refl _), h.2.2.2.2.2.2.2.2.moved (by rw [hv]; exact Vm.Alike.refl _)⟩
theorem ct_T.warm {sa1 sa2 : Nat} {A : Nat → Prop} {s U : State} {H : Heap} (h : ct_T sa1 sa2 A s H) (hW : s.WarmedH U.vm) : ct_T sa1 sa2 A U H := ⟨h.1.warm hW, h.2.1.moved hW.alike, h.2.2.moved hW.alike⟩
theorem ct_T.kept {sa1 sa2 : Nat} {A : Nat → Prop} {s : State} {H H1 : Heap} (h : ct_T sa1 sa2 A s H) (hq : ∀ a : Nat, a < H.size → ¬ A a → H1[a]? = H[a]?) : ct_T sa1 sa2 A s H1 := ⟨h.1, h.2.1.kept hq, h.2.2.kept hq⟩
theorem ct_T.narrow {sa1 sa2 : Nat} {A B : Nat → Prop} {s : State} {H : Heap} (h : ct_T sa1 sa2 A s H) (hAB : ∀ q, B q → A q) : ct_T sa1 sa2 B s H := ⟨h.1, h.2.1.narrow hAB, h.2.2.narrow hAB⟩
def cx_Pc (D : va_G) (As : List Value) (wc : va_W) (tys : List (ClassId × FieldType)) (sa1 sa2 sz : Nat) : Array Value → State → Prop := va_Pc As (fun U => U.heap.size = sz ∧ va_P D vwCl wc U.heap ∧ va_K D vwCl tys U ∧ va_D (fun _ => True) wc ∧ ct_T sa1 sa2 (va_A wc sz) U U.heap)
def cx_X (D : va_G) (tys : List (ClassId × FieldType)) (wc : va_W) (ex : String → Prop) (A : Nat → Prop) : String → State → State → Prop := vx_X (fun _ : Unit => True) (fun E _ t => ex E ∧ ct_B D tys A (fun _ : Unit => wc) () t) A
theorem cx_frameblind {D : va_G} {As : List Value} {wc : va_W} {tys : List (ClassId × FieldType)} {sa1 sa2 sz : Nat} : FrameBlind (cx_Pc D As wc tys sa1 sa2 sz) := by
  intro a U g mk q
  obtain ⟨q0, q1, qP, qK, qD, q5, q7, q8⟩ := q
  exact ⟨q0, q1, qP, va_K.moved (u := U) (U := U.calling g mk a) (Vm.Alike.refl U.vm) qK, qD, ct_TF.same (s := U) rfl q5, q7.moved (U := U.calling g mk a) (Vm.Alike.refl U.vm), q8.moved (U := U.calling g mk a) (Vm.Alike.refl U.vm)⟩
def cx_i {S : Type} (l : Launch) (D : va_G) (y : MethodName) (ws : List Cond) (rm : Room) (As : List Value) (wc : va_W) (tys : List (ClassId × FieldType)) (sa1 sa2 : Nat) (post : Int32 → S → Prop) (wo : S → va_W) (ex : String → Prop) : Prop := ∀ sz : Nat, vx_Met l y ws rm (cx_Pc D As wc tys sa1 sa2 sz) (ct_Qi D tys post wo (va_A wc sz)) (cx_X D tys wc ex (va_A wc sz)) rm.cells rm.slots (va_A wc sz)
def cx_Bi {S : Type} (l : Launch) (D : va_G) (y : MethodName) (ws : List Cond) (rm : Room) (cc : ByteArray) (maxL : Nat) (As : List Value) (wc : va_W) (tys : List (ClassId × FieldType)) (sa1 sa2 : Nat) (post : Int32 → S → Prop) (wo : S → va_W) (ex : String → Prop) : Prop :=
  ∀ (p : Program) (e : Env) (s : State) (m : MethodId) (args : Array Value) (below : List Frame) (meth : Method) (c : Code) (A : Nat → Prop) (Q : State → Prop), p.tables.exec = Jvm.exec → c.code = cc → c.maxLocals = maxL → s.vm.findClass y.cls = some m.cls → (∀ w ∈ ws, w.before args s = true) → (∀ q : Nat, s.heap.size ≤ q → A q) →
    va_K D vwCl tys s → ct_T sa1 sa2 A s s.heap → ∀ (H : Heap) (locs : List Loc), va_P D vwCl wc H → va_D A wc → va_S A s.heap H locs →
    (∀ (v : Int32) (u : S) (H : Heap) (locs : List Loc) (cells slots pc : Nat) (ls : Array Slot), decode cc pc = .ok (.ireturn, 1) → post v u → va_P D vwCl (wo u) H → va_D A (wo u) → va_S A s.heap H locs → cells ≤ rm.cells → slots ≤ rm.slots → W p l e rm s m args below meth c H locs cells slots Q (F0 m pc ls [.int v])) →
    (∀ (E : String) (ce : Cell) (q9 : Addr) (H : Heap) (locs : List Loc) (cells slots pc : Nat) (ls : Array Slot) (rest : List Value), ex E → va_P D vwCl wc H → va_D A wc → va_S A s.heap H locs → H[q9]? = some ce → ce.vm = .none → s.vm.findClass E = some ce.cls → cells ≤ rm.cells → slots ≤ rm.slots → vx_W p l e rm s m args below meth c H locs cells slots Q (F0 m pc ls rest) q9) →
    ∀ ls : Array Slot, lv_has ls maxL (lv_args 0 As) → W p l e rm s m args below meth c H locs 0 0 Q (F0 m 0 ls [])
theorem cx_ofi {S : Type} {l : Launch} {D : va_G} {y : MethodName} {ws ws' : List Cond} {rm : Room} {cc : ByteArray} {maxL : Nat} {As : List Value} {wc : va_W} {tys : List (ClassId × FieldType)} {sa1 sa2 : Nat} {post : Int32 → S → Prop} {wo : S → va_W} {ex : String → Prop}
    (hy : plainName y.cls = true) (hw : ws = Cond.code y cc maxL (some .int) :: ws') (hln : (lg_sl As).length ≤ maxL) (body : cx_Bi l D y ws rm cc maxL As wc tys sa1 sa2 post wo ex) : cx_i l D y ws rm As wc tys sa1 sa2 post wo ex := by
  intro sz
  refine vx_ofW (cc := cc) (maxL := maxL) (ret := (some .int)) hy hw ?_
  intro p e s m args below meth c s₁ B hml htab hv
  obtain ⟨rfl, hsz, hP, hK, hD0, hT⟩ := hv
  subst hsz
  have hD := hD0.self (sz := s.heap.size)
  have hl := lv_entry As (n := maxL) hln
  rw [lg_entry_eq]
  have hx := B.exec
  have hb := B.bytes
  have hr := B.returns
  have hlocks := B.notSynchronized
  exact body p e s m As.toArray below meth c (va_A wc s.heap.size) _ hx hb hml (findClass_of_methodNamed B.named) (atoms_spec (ws := ws) B.pre) (fun q h => Or.inr h) hK hT s.heap [] hP hD va_S.rf
    (fun v u H locs cells slots pc ls hdg hq hP hD hS hc hs => vx_ret (W.widen hc hs (W.iret (v := v) hx hb hr (fun t ht hW => ⟨⟨v, u, rfl, hq, by rw [ht]; exact hP, va_K.moved hW.alike hK, hD⟩, hS.F ht⟩) hS.2.2 hdg hlocks)))
    (fun E ce q9 H locs cells slots pc ls rest hex hP hD hS hce hcv hcl hc hs => vx_out (fun z hz => (htab z hz).elim) hlocks hce hcv hcl (fun t ht hvm => ⟨(), trivial, ⟨hex, by rw [ht]; exact hP, va_K.moved hvm hK, hD⟩, hS.F ht⟩) hS.2.2 hc hs) _ hl
def cx_v {S : Type} (l : Launch) (D : va_G) (y : MethodName) (ws : List Cond) (rm : Room) (As : List Value) (wc : va_W) (tys : List (ClassId × FieldType)) (sa1 sa2 : Nat) (post : S → Prop) (wo : S → va_W) (ex : String → Prop) : Prop := ∀ sz : Nat, vx_Met l y ws rm (cx_Pc D As wc tys sa1 sa2 sz) (ct_Qv D tys post wo (va_A wc sz)) (cx_X D tys wc ex (va_A wc sz)) rm.cells rm.slots (va_A wc sz)
def cx_Bv {S : Type} (l : Launch) (D : va_G) (y : MethodName) (ws : List Cond) (rm : Room) (cc : ByteArray) (maxL : Nat) (As : List Value) (wc : va_W) (tys : List (ClassId × FieldType)) (sa1 sa2 : Nat) (post : S → Prop) (wo : S → va_W) (ex : String → Prop) : Prop :=
  ∀ (p : Program) (e : Env) (s : State) (m : MethodId) (args : Array Value) (below : List Frame) (meth : Method) (c : Code) (A : Nat → Prop) (Q : State → Prop), p.tables.exec = Jvm.exec → c.code = cc → c.maxLocals = maxL → s.vm.findClass y.cls = some m.cls → (∀ w ∈ ws, w.before args s = true) → (∀ q : Nat, s.heap.size ≤ q → A q) →
    va_K D vwCl tys s → ct_T sa1 sa2 A s s.heap → ∀ (H : Heap) (locs : List Loc), va_P D vwCl wc H → va_D A wc → va_S A s.heap H locs →
    (∀ (u : S) (H : Heap) (locs : List Loc) (cells slots pc : Nat) (ls : Array Slot), decode cc pc = .ok (.return_, 1) → post u → va_P D vwCl (wo u) H → va_D A (wo u) → va_S A s.heap H locs → cells ≤ rm.cells → slots ≤ rm.slots → W p l e rm s m args below meth c H locs cells slots Q (F0 m pc ls [])) →
    (∀ (E : String) (ce : Cell) (q9 : Addr) (H : Heap) (locs : List Loc) (cells slots pc : Nat) (ls : Array Slot) (rest : List Value), ex E → va_P D vwCl wc H → va_D A wc → va_S A s.heap H locs → H[q9]? = some ce → ce.vm = .none → s.vm.findClass E = some ce.cls → cells ≤ rm.cells → slots ≤ rm.slots → vx_W p l e rm s m args below meth c H locs cells slots Q (F0 m pc ls rest) q9) →
    ∀ ls : Array Slot, lv_has ls maxL (lv_args 0 As) → W p l e rm s m args below meth c H locs 0 0 Q (F0 m 0 ls [])
theorem cx_ofv {S : Type} {l : Launch} {D : va_G} {y : MethodName} {ws ws' : List Cond} {rm : Room} {cc : ByteArray} {maxL : Nat} {As : List Value} {wc : va_W} {tys : List (ClassId × FieldType)} {sa1 sa2 : Nat} {post : S → Prop} {wo : S → va_W} {ex : String → Prop}
    (hy : plainName y.cls = true) (hw : ws = Cond.code y cc maxL none :: ws') (hln : (lg_sl As).length ≤ maxL) (body : cx_Bv l D y ws rm cc maxL As wc tys sa1 sa2 post wo ex) : cx_v l D y ws rm As wc tys sa1 sa2 post wo ex := by
  intro sz
  refine vx_ofW (cc := cc) (maxL := maxL) (ret := none) hy hw ?_
  intro p e s m args below meth c s₁ B hml htab hv
  obtain ⟨rfl, hsz, hP, hK, hD0, hT⟩ := hv
  subst hsz
  have hD := hD0.self (sz := s.heap.size)
  have hl := lv_entry As (n := maxL) hln
  rw [lg_entry_eq]
  have hx := B.exec
  have hb := B.bytes
  have hr := B.returns
  have hlocks := B.notSynchronized
  exact body p e s m As.toArray below meth c (va_A wc s.heap.size) _ hx hb hml (findClass_of_methodNamed B.named) (atoms_spec (ws := ws) B.pre) (fun q h => Or.inr h) hK hT s.heap [] hP hD va_S.rf
    (fun u H locs cells slots pc ls hdg hq hP hD hS hc hs => vx_ret (W.widen hc hs (W.vret hx hb hr (fun t ht hW => ⟨⟨u, rfl, hq, by rw [ht]; exact hP, va_K.moved hW.alike hK, hD⟩, hS.F ht⟩) hS.2.2 hdg hlocks)))
    (fun E ce q9 H locs cells slots pc ls rest hex hP hD hS hce hcv hcl hc hs => vx_out (fun z hz => (htab z hz).elim) hlocks hce hcv hcl (fun t ht hvm => ⟨(), trivial, ⟨hex, by rw [ht]; exact hP, va_K.moved hvm hK, hD⟩, hS.F ht⟩) hS.2.2 hc hs) _ hl
section CXC
variable {p : Program} {l : Launch} {e : Env} {R : Room} {s : State} {m : MethodId} {args : Array Value} {below : List Frame} {meth : Method} {c : Code} {H : Heap} {locs : List Loc} {cells slots : Nat} {Q : State → Prop}
variable {pc : Nat} {ls : Array Slot} {cc : ByteArray} {D : va_G} {tysW tys : List (ClassId × FieldType)} {A : Nat → Prop} {S : Type} {wo : S → va_W} {y : MethodName} {bytes : ByteArray} {maxL nL n index : Nat} {ret : Option FieldType} {wsy : List Cond} {rm : Room} {Ts : List Cond} {own C : String} {b : Addr} {As rest st : List Value} {W0 wc wr : va_W} {W1 : S → va_W} {sa1 sa2 : Nat} {ex : String → Prop}
theorem cx_pre (hK : va_K D vwCl tysW s) (hP : va_P D vwCl W0 H) (hD : va_D A W0) (hS : va_S A s.heap H locs) (hA : ∀ q : Nat, s.heap.size ≤ q → A q) (hT : ct_T sa1 sa2 A s s.heap) {isC isR : List Nat} (hcut : ct_Cut W0 wc wr isC isR) (ist : List Nat) (hty : ist.filterMap (fun i => tysW[i]?) = tys) {Bs : List Value} : PreS s H (cx_Pc D Bs wc tys sa1 sa2 H.size) Bs :=
  ⟨cx_frameblind, fun U hU hW => ⟨rfl, by rw [hU], by rw [hU]; exact hP.sub isC (ct_mapfm hcut.1), va_K.moved hW.alike (hK.sub ist hty), (hD.sub isC hcut.2.2.1 hcut.1).weaken (fun _ _ _ _ => trivial), by
    rw [hU]
    exact (((hT.kept (fun a h1 h2 => hS.2.1 a h1 h2)).narrow (va_free hD hS hA isC hcut.1)).warm hW)⟩⟩
theorem cx_backx {H1 : Heap} {t : State} (hP : va_P D vwCl W0 H) (hD : va_D A W0) (hS : va_S A s.heap H locs) (hA : ∀ q : Nat, s.heap.size ≤ q → A q) {isC isR : List Nat} (hcut : ct_Cut W0 wc wr isC isR) (perm : List Nat) (hnp : va_nd perm = true) (hperm : perm.map (fun i => (wr ++ wc)[i]?) = W0.map some)
    (ht : t.heap = H1) (hk : ∀ q : Nat, q < H.size → ¬ va_A wc H.size q → H1[q]? = H[q]?) (hB : ct_B D tys (va_A wc H.size) (fun _ : Unit => wc) () t) : va_P D vwCl W0 H1 ∧ va_D A W0 :=
  ct_back (W1 := fun _ : Unit => W0) (u := ()) hP hD hS hA hcut perm hnp hperm ht hk hB
theorem cx_Vi {post : Int32 → S → Prop} (F : CallFix p m c cc nL s args Ts own) (hC : cx_i l D y wsy rm (.ref b :: As) wc tys sa1 sa2 post wo ex) (cw : CallW R s args own C index y bytes maxL ret wsy rm rm.cells rm.slots n) (hK : va_K D vwCl tysW s) (hP : va_P D vwCl W0 H) (hD : va_D A W0) (hS : va_S A s.heap H locs) (hA : ∀ q : Nat, s.heap.size ≤ q → A q) (hT : ct_T sa1 sa2 A s s.heap)
    (isC isR : List Nat) (hcut : ct_Cut W0 wc wr isC isR) (perm : List Nat) (hnp : va_nd perm = true) (hperm : ∀ u : S, perm.map (fun i => (wr ++ wo u)[i]?) = (W1 u).map some) (permx : List Nat) (hnpx : va_nd permx = true) (hpermx : permx.map (fun i => (wr ++ wc)[i]?) = W0.map some) (ist : List Nat) (hty : ist.filterMap (fun i => tysW[i]?) = tys)
    (hrecv : ∃ cell : Cell, H[b]? = some cell ∧ cell.vm.isStatics = false ∧ s.vm.findClass C = some cell.cls) (hn : As.length = n) (hsize : ls.size = nL) (hst : st = As.reverse ++ .ref b :: rest) (hroom : (rest.map fun v => v.category).sum ≤ 8) {cells1 slots1 : Nat} (hc9 : cells + rm.cells = cells1) (hs9 : slots + rm.slots = slots1) (hf : cells1 ≤ R.cells ∧ slots1 ≤ R.slots) (hdg : decode cc pc = .ok (.invokevirtual index, 3))
    (kx : ∀ (E : String) (ce : Cell) (q9 : Addr) (H1 : Heap) (locs1 : List Loc), ex E → va_P D vwCl W0 H1 → va_D A W0 → va_S A s.heap H1 locs1 → H1[q9]? = some ce → ce.vm = .none → s.vm.findClass E = some ce.cls → vx_W p l e R s m args below meth c H1 locs1 cells1 slots1 Q (F0 m pc ls rest) q9)
    (kk : ∀ (r : Int32) (u : S) (H1 : Heap) (locs1 : List Loc), post r u → va_P D vwCl (W1 u) H1 → va_D A (W1 u) → va_S A s.heap H1 locs1 → W p l e R s m args below meth c H1 locs1 cells1 slots1 Q (F0 m (pc + 3) ls (.int r :: rest))) :
    W p l e R s m args below meth c H locs cells slots Q (F0 m pc ls st) := by
  subst hst
  subst hc9
  subst hs9
  have hp := cx_pre (Bs := (.ref b :: As)) hK hP hD hS hA hT hcut ist hty
  refine vx_calli (vx_runV (As := As) (rest := rest) F (hC H.size) cw ⟨hp.1, hrecv, hp.2⟩ rfl hn hsize rfl (lv_room hroom) hdg hf) hS (fun q _ h => va_free hD hS hA isC hcut.1 q h) (va_free hD hS hA isC hcut.1) (fun q _ h => va_free hD hS hA isC hcut.1 q h) (fun E ce q9 u t H1 locs1 ht hvm hw hB hz1 hk1 hS1 hce hcv hcl => ?_) (fun r u t H1 locs1 ht hvm hw hB hz1 hk1 hS1 => ?_)
  · obtain ⟨a1, a2⟩ := cx_backx hP hD hS hA hcut permx hnpx hpermx ht hk1 hB.2
    exact kx E ce q9 H1 locs1 hB.1 a1 a2 hS1 hce hcv hcl
  · obtain ⟨a1, a2⟩ := ct_back hP hD hS hA hcut perm hnp (hperm u) ht hk1 hB
    exact kk r u H1 locs1 hw a1 a2 hS1
theorem cx_Vv {post : S → Prop} (F : CallFix p m c cc nL s args Ts own) (hC : cx_v l D y wsy rm (.ref b :: As) wc tys sa1 sa2 post wo ex) (cw : CallW R s args own C index y bytes maxL ret wsy rm rm.cells rm.slots n) (hK : va_K D vwCl tysW s) (hP : va_P D vwCl W0 H) (hD : va_D A W0) (hS : va_S A s.heap H locs) (hA : ∀ q : Nat, s.heap.size ≤ q → A q) (hT : ct_T sa1 sa2 A s s.heap)
    (isC isR : List Nat) (hcut : ct_Cut W0 wc wr isC isR) (perm : List Nat) (hnp : va_nd perm = true) (hperm : ∀ u : S, perm.map (fun i => (wr ++ wo u)[i]?) = (W1 u).map some) (permx : List Nat) (hnpx : va_nd permx = true) (hpermx : permx.map (fun i => (wr ++ wc)[i]?) = W0.map some) (ist : List Nat) (hty : ist.filterMap (fun i => tysW[i]?) = tys)
    (hrecv : ∃ cell : Cell, H[b]? = some cell ∧ cell.vm.isStatics = false ∧ s.vm.findClass C = some cell.cls) (hn : As.length = n) (hsize : ls.size = nL) (hst : st = As.reverse ++ .ref b :: rest) (hroom : (rest.map fun v => v.category).sum ≤ 8) {cells1 slots1 : Nat} (hc9 : cells + rm.cells = cells1) (hs9 : slots + rm.slots = slots1) (hf : cells1 ≤ R.cells ∧ slots1 ≤ R.slots) (hdg : decode cc pc = .ok (.invokevirtual index, 3))
    (kx : ∀ (E : String) (ce : Cell) (q9 : Addr) (H1 : Heap) (locs1 : List Loc), ex E → va_P D vwCl W0 H1 → va_D A W0 → va_S A s.heap H1 locs1 → H1[q9]? = some ce → ce.vm = .none → s.vm.findClass E = some ce.cls → vx_W p l e R s m args below meth c H1 locs1 cells1 slots1 Q (F0 m pc ls rest) q9)
    (kk : ∀ (u : S) (H1 : Heap) (locs1 : List Loc), post u → va_P D vwCl (W1 u) H1 → va_D A (W1 u) → va_S A s.heap H1 locs1 → W p l e R s m args below meth c H1 locs1 cells1 slots1 Q (F0 m (pc + 3) ls rest)) :
    W p l e R s m args below meth c H locs cells slots Q (F0 m pc ls st) := by
  subst hst
  subst hc9
  subst hs9
  have hp := cx_pre (Bs := (.ref b :: As)) hK hP hD hS hA hT hcut ist hty
  refine vx_callv (vx_runV (As := As) (rest := rest) F (hC H.size) cw ⟨hp.1, hrecv, hp.2⟩ rfl hn hsize rfl (lv_room hroom) hdg hf) hS (fun q _ h => va_free hD hS hA isC hcut.1 q h) (va_free hD hS hA isC hcut.1) (fun q _ h => va_free hD hS hA isC hcut.1 q h) (fun E ce q9 u t H1 locs1 ht hvm hw hB hz1 hk1 hS1 hce hcv hcl => ?_) (fun u t H1 locs1 ht hvm hw hB hz1 hk1 hS1 => ?_)
  · obtain ⟨a1, a2⟩ := cx_backx hP hD hS hA hcut permx hnpx hpermx ht hk1 hB.2
    exact kx E ce q9 H1 locs1 hB.1 a1 a2 hS1 hce hcv hcl
  · obtain ⟨a1, a2⟩ := ct_back hP hD hS hA hcut perm hnp (hperm u) ht hk1 hB
    exact kk u H1 locs1 hw a1 a2 hS1
theorem cx_Si {post : Int32 → S → Prop} (F : CallFix p m c cc nL s args Ts own) (hC : cx_i l D y wsy rm As wc tys sa1 sa2 post wo ex) (cw : CallB R s args own index y bytes maxL ret wsy rm rm.cells rm.slots n ∧ (Cond.static y).before args s = true) (hK : va_K D vwCl tysW s) (hP : va_P D vwCl W0 H) (hD : va_D A W0) (hS : va_S A s.heap H locs) (hA : ∀ q : Nat, s.heap.size ≤ q → A q) (hT : ct_T sa1 sa2 A s s.heap)
    (isC isR : List Nat) (hcut : ct_Cut W0 wc wr isC isR) (perm : List Nat) (hnp : va_nd perm = true) (hperm : ∀ u : S, perm.map (fun i => (wr ++ wo u)[i]?) = (W1 u).map some) (permx : List Nat) (hnpx : va_nd permx = true) (hpermx : permx.map (fun i => (wr ++ wc)[i]?) = W0.map some) (ist : List Nat) (hty : ist.filterMap (fun i => tysW[i]?) = tys)
    (hn : As.length = n) (hsize : ls.size = nL) (hst : st = As.reverse ++ rest) (hroom : (rest.map fun v => v.category).sum ≤ 8) {cells1 slots1 : Nat} (hc9 : cells + rm.cells = cells1) (hs9 : slots + rm.slots = slots1) (hf : cells1 ≤ R.cells ∧ slots1 ≤ R.slots) (hdg : decode cc pc = .ok (.invokestatic index, 3))
    (kx : ∀ (E : String) (ce : Cell) (q9 : Addr) (H1 : Heap) (locs1 : List Loc), ex E → va_P D vwCl W0 H1 → va_D A W0 → va_S A s.heap H1 locs1 → H1[q9]? = some ce → ce.vm = .none → s.vm.findClass E = some ce.cls → vx_W p l e R s m args below meth c H1 locs1 cells1 slots1 Q (F0 m pc ls rest) q9)
    (kk : ∀ (r : Int32) (u : S) (H1 : Heap) (locs1 : List Loc), post r u → va_P D vwCl (W1 u) H1 → va_D A (W1 u) → va_S A s.heap H1 locs1 → W p l e R s m args below meth c H1 locs1 cells1 slots1 Q (F0 m (pc + 3) ls (.int r :: rest))) :
    W p l e R s m args below meth c H locs cells slots Q (F0 m pc ls st) := by
  subst hst
  subst hc9
  subst hs9
  have hp := cx_pre (Bs := As) hK hP hD hS hA hT hcut ist hty
  refine vx_calli (vx_runS (As := As) (rest := rest) F (hC H.size) cw ⟨hp.1, hp.2⟩ rfl hn hsize rfl (lv_room hroom) hdg hf) hS (fun q _ h => va_free hD hS hA isC hcut.1 q h) (va_free hD hS hA isC hcut.1) (fun q _ h => va_free hD hS hA isC hcut.1 q h) (fun E ce q9 u t H1 locs1 ht hvm hw hB hz1 hk1 hS1 hce hcv hcl => ?_) (fun r u t H1 locs1 ht hvm hw hB hz1 hk1 hS1 => ?_)
  · obtain ⟨a1, a2⟩ := cx_backx hP hD hS hA hcut permx hnpx hpermx ht hk1 hB.2
    exact kx E ce q9 H1 locs1 hB.1 a1 a2 hS1 hce hcv hcl
  · obtain ⟨a1, a2⟩ := ct_back hP hD hS hA hcut perm hnp (hperm u) ht hk1 hB
    exact kk r u H1 locs1 hw a1 a2 hS1
theorem cx_Sv {post : S → Prop} (F : CallFix p m c cc nL s args Ts own) (hC : cx_v l D y wsy rm As wc tys sa1 sa2 post wo ex) (cw : CallB R s args own index y bytes maxL ret wsy rm rm.cells rm.slots n ∧ (Cond.static y).before args s = true) (hK : va_K D vwCl tysW s) (hP : va_P D vwCl W0 H) (hD : va_D A W0) (hS : va_S A s.heap H locs) (hA : ∀ q : Nat, s.heap.size ≤ q → A q) (hT : ct_T sa1 sa2 A s s.heap)
    (isC isR : List Nat) (hcut : ct_Cut W0 wc wr isC isR) (perm : List Nat) (hnp : va_nd perm = true) (hperm : ∀ u : S, perm.map (fun i => (wr ++ wo u)[i]?) = (W1 u).map some) (permx : List Nat) (hnpx : va_nd permx = true) (hpermx : permx.map (fun i => (wr ++ wc)[i]?) = W0.map some) (ist : List Nat) (hty : ist.filterMap (fun i => tysW[i]?) = tys)
    (hn : As.length = n) (hsize : ls.size = nL) (hst : st = As.reverse ++ rest) (hroom : (rest.map fun v => v.category).sum ≤ 8) {cells1 slots1 : Nat} (hc9 : cells + rm.cells = cells1) (hs9 : slots + rm.slots = slots1) (hf : cells1 ≤ R.cells ∧ slots1 ≤ R.slots) (hdg : decode cc pc = .ok (.invokestatic index, 3))
    (kx : ∀ (E : String) (ce : Cell) (q9 : Addr) (H1 : Heap) (locs1 : List Loc), ex E → va_P D vwCl W0 H1 → va_D A W0 → va_S A s.heap H1 locs1 → H1[q9]? = some ce → ce.vm = .none → s.vm.findClass E = some ce.cls → vx_W p l e R s m args below meth c H1 locs1 cells1 slots1 Q (F0 m pc ls rest) q9)
    (kk : ∀ (u : S) (H1 : Heap) (locs1 : List Loc), post u → va_P D vwCl (W1 u) H1 → va_D A (W1 u) → va_S A s.heap H1 locs1 → W p l e R s m args below meth c H1 locs1 cells1 slots1 Q (F0 m (pc + 3) ls rest)) :
    W p l e R s m args below meth c H locs cells slots Q (F0 m pc ls st) := by
  subst hst
  subst hc9
  subst hs9
  have hp := cx_pre (Bs := As) hK hP hD hS hA hT hcut ist hty
  refine vx_callv (vx_runS (As := As) (rest := rest) F (hC H.size) cw ⟨hp.1, hp.2⟩ rfl hn hsize rfl (lv_room hroom) hdg hf) hS (fun q _ h => va_free hD hS hA isC hcut.1 q h) (va_free hD hS hA isC hcut.1) (fun q _ h => va_free hD hS hA isC hcut.1 q h) (fun E ce q9 u t H1 locs1 ht hvm hw hB hz1 hk1 hS1 hce hcv hcl => ?_) (fun u t H1 locs1 ht hvm hw hB hz1 hk1 hS1 => ?_)
  · obtain ⟨a1, a2⟩ := cx_backx hP hD hS hA hcut permx hnpx hpermx ht hk1 hB.2
    exact kx E ce q9 H1 locs1 hB.1 a1 a2 hS1 hce hcv hcl
  · obtain ⟨a1, a2⟩ := ct_back hP hD hS hA hcut perm hnp (hperm u) ht hk1 hB
    exact kk u H1 locs1 hw a1 a2 hS1
end CXC
end
section
set_option maxRecDepth 20000 in
theorem ggX1_init_X0_init : GoodIn wsX1_init wsX0_init := goodIn_r _ [11, 12, 2, 3, 13, 14, 15, 16, 17, 18, 19, 20, 21, 22, 23, 24, 25, 26, 27, 28, 29, 30, 31, 32, 33, 34, 35, 36, 37, 38, 39, 40, 41, 42, 43] (by decide +kernel) (by decide +kernel)
set_option maxRecDepth 20000 in
theorem gX1_init_X0_init : GoodIn wsX1_init (wsX0_init) := ggX1_init_X0_init
theorem dX1_init_0 : decode cX1_init 0 = .ok (.aload_n 0, 1) := by decide +kernel
theorem dX1_init_1 : decode cX1_init 1 = .ok (.invokespecial 1, 3) := by decide +kernel
theorem dX1_init_4 : decode cX1_init 4 = .ok (.aload_n 0, 1) := by decide +kernel
theorem dX1_init_5 : decode cX1_init 5 = .ok (.new 7, 3) := by decide +kernel
theorem dX1_init_8 : decode cX1_init 8 = .ok (.dup, 1) := by decide +kernel
theorem dX1_init_9 : decode cX1_init 9 = .ok (.invokespecial 9, 3) := by decide +kernel
theorem dX1_init_12 : decode cX1_init 12 = .ok (.putfield 10, 3) := by decide +kernel
theorem dX1_init_15 : decode cX1_init 15 = .ok (.aload_n 0, 1) := by decide +kernel
theorem dX1_init_16 : decode cX1_init 16 = .ok (.new 7, 3) := by decide +kernel
theorem dX1_init_19 : decode cX1_init 19 = .ok (.dup, 1) := by decide +kernel
theorem dX1_init_20 : decode cX1_init 20 = .ok (.invokespecial 9, 3) := by decide +kernel
theorem dX1_init_23 : decode cX1_init 23 = .ok (.putfield 16, 3) := by decide +kernel
theorem dX1_init_26 : decode cX1_init 26 = .ok (.return_, 1) := by decide +kernel
set_option maxRecDepth 20000 in
theorem ggX1_raise_X1_placeOf : GoodIn wsX1_raise wsX1_placeOf := goodIn_ca (goodIn_r _ [6, 7, 8, 5, 9, 10, 11] (by decide +kernel) (by decide +kernel)) (goodIn_sub (fun _ h => List.mem_cons_of_mem _ (List.mem_append_left _ (List.mem_append_right _ h))) (by decide +kernel))
set_option maxRecDepth 20000 in
theorem gX1_raise_X1_placeOf : GoodIn wsX1_raise (va_wsS RX1 19 yX1_placeOf wsX1_placeOf) := goodIn_app (goodIn_of _ (by decide +kernel)) ggX1_raise_X1_placeOf
set_option maxRecDepth 20000 in
theorem ggX1_raise_X1_requireWithin : GoodIn wsX1_raise wsX1_requireWithin := goodIn_ca (goodIn_r _ [14, 15, 16] (by decide +kernel) (by decide +kernel)) (goodIn_sub (fun _ h => List.mem_cons_of_mem _ (List.mem_append_right _ h)) (by decide +kernel))
set_option maxRecDepth 20000 in
theorem gX1_raise_X1_requireWithin : GoodIn wsX1_raise (va_wsS RX1 23 yX1_requireWithin wsX1_requireWithin) := goodIn_app (goodIn_of _ (by decide +kernel)) ggX1_raise_X1_requireWithin
theorem dX1_raise_0 : decode cX1_raise 0 = .ok (.iload_n 1, 1) := by decide +kernel
theorem dX1_raise_1 : decode cX1_raise 1 = .ok (.iload_n 2, 1) := by decide +kernel
theorem dX1_raise_2 : decode cX1_raise 2 = .ok (.invokestatic 19, 3) := by decide +kernel
theorem dX1_raise_5 : decode cX1_raise 5 = .ok (.istore 4, 2) := by decide +kernel
theorem dX1_raise_7 : decode cX1_raise 7 = .ok (.iload_n 3, 1) := by decide +kernel
theorem dX1_raise_8 : decode cX1_raise 8 = .ok (.iconst 0, 1) := by decide +kernel
theorem dX1_raise_9 : decode cX1_raise 9 = .ok (.bipush 50, 2) := by decide +kernel
theorem dX1_raise_11 : decode cX1_raise 11 = .ok (.invokestatic 23, 3) := by decide +kernel
theorem dX1_raise_14 : decode cX1_raise 14 = .ok (.aload_n 0, 1) := by decide +kernel
theorem dX1_raise_15 : decode cX1_raise 15 = .ok (.getfield 10, 3) := by decide +kernel
theorem dX1_raise_18 : decode cX1_raise 18 = .ok (.getfield 27, 3) := by decide +kernel
theorem dX1_raise_21 : decode cX1_raise 21 = .ok (.iload 4, 2) := by decide +kernel
theorem dX1_raise_23 : decode cX1_raise 23 = .ok (.iaload, 1) := by decide +kernel
theorem dX1_raise_24 : decode cX1_raise 24 = .ok (.istore 5, 2) := by decide +kernel
theorem dX1_raise_26 : decode cX1_raise 26 = .ok (.aload_n 0, 1) := by decide +kernel
theorem dX1_raise_27 : decode cX1_raise 27 = .ok (.getfield 10, 3) := by decide +kernel
theorem dX1_raise_30 : decode cX1_raise 30 = .ok (.getfield 27, 3) := by decide +kernel
theorem dX1_raise_33 : decode cX1_raise 33 = .ok (.iload 4, 2) := by decide +kernel
theorem dX1_raise_35 : decode cX1_raise 35 = .ok (.iload_n 3, 1) := by decide +kernel
theorem dX1_raise_36 : decode cX1_raise 36 = .ok (.iastore, 1) := by decide +kernel
theorem dX1_raise_37 : decode cX1_raise 37 = .ok (.iload 5, 2) := by decide +kernel
theorem dX1_raise_39 : decode cX1_raise 39 = .ok (.ireturn, 1) := by decide +kernel
set_option maxRecDepth 20000 in
theorem ggX1_pour_X1_placeOf : GoodIn wsX1_pour wsX1_placeOf := goodIn_ca (goodIn_r _ [10, 11, 12, 9, 13, 14, 15] (by decide +kernel) (by decide +kernel)) (goodIn_sub (fun _ h => List.mem_cons_of_mem _ (List.mem_append_left _ (List.mem_append_right _ h))) (by decide +kernel))
set_option maxRecDepth 20000 in
theorem gX1_pour_X1_placeOf : GoodIn wsX1_pour (va_wsS RX1 19 yX1_placeOf wsX1_placeOf) := goodIn_app (goodIn_of _ (by decide +kernel)) ggX1_pour_X1_placeOf
set_option maxRecDepth 20000 in
theorem ggX1_pour_X1_requireWithin : GoodIn wsX1_pour wsX1_requireWithin := goodIn_ca (goodIn_r _ [18, 19, 20] (by decide +kernel) (by decide +kernel)) (goodIn_sub (fun _ h => List.mem_cons_of_mem _ (List.mem_append_right _ h)) (by decide +kernel))
set_option maxRecDepth 20000 in
theorem gX1_pour_X1_requireWithin : GoodIn wsX1_pour (va_wsS RX1 23 yX1_requireWithin wsX1_requireWithin) := goodIn_app (goodIn_of _ (by decide +kernel)) ggX1_pour_X1_requireWithin
theorem dX1_pour_0 : decode cX1_pour 0 = .ok (.iload_n 1, 1) := by decide +kernel
theorem dX1_pour_1 : decode cX1_pour 1 = .ok (.iload_n 2, 1) := by decide +kernel
theorem dX1_pour_2 : decode cX1_pour 2 = .ok (.invokestatic 19, 3) := by decide +kernel
theorem dX1_pour_5 : decode cX1_pour 5 = .ok (.istore 4, 2) := by decide +kernel
theorem dX1_pour_7 : decode cX1_pour 7 = .ok (.iload_n 3, 1) := by decide +kernel
theorem dX1_pour_8 : decode cX1_pour 8 = .ok (.bipush (-99), 2) := by decide +kernel
theorem dX1_pour_10 : decode cX1_pour 10 = .ok (.bipush 99, 2) := by decide +kernel
theorem dX1_pour_12 : decode cX1_pour 12 = .ok (.invokestatic 23, 3) := by decide +kernel
theorem dX1_pour_15 : decode cX1_pour 15 = .ok (.aload_n 0, 1) := by decide +kernel
theorem dX1_pour_16 : decode cX1_pour 16 = .ok (.getfield 10, 3) := by decide +kernel
theorem dX1_pour_19 : decode cX1_pour 19 = .ok (.getfield 31, 3) := by decide +kernel
theorem dX1_pour_22 : decode cX1_pour 22 = .ok (.iload 4, 2) := by decide +kernel
theorem dX1_pour_24 : decode cX1_pour 24 = .ok (.iconst 0, 1) := by decide +kernel
theorem dX1_pour_25 : decode cX1_pour 25 = .ok (.aload_n 0, 1) := by decide +kernel
theorem dX1_pour_26 : decode cX1_pour 26 = .ok (.getfield 10, 3) := by decide +kernel
theorem dX1_pour_29 : decode cX1_pour 29 = .ok (.getfield 31, 3) := by decide +kernel
theorem dX1_pour_32 : decode cX1_pour 32 = .ok (.iload 4, 2) := by decide +kernel
theorem dX1_pour_34 : decode cX1_pour 34 = .ok (.iaload, 1) := by decide +kernel
theorem dX1_pour_35 : decode cX1_pour 35 = .ok (.iload_n 3, 1) := by decide +kernel
theorem dX1_pour_36 : decode cX1_pour 36 = .ok (.iadd, 1) := by decide +kernel
theorem dX1_pour_37 : decode cX1_pour 37 = .ok (.invokestatic 34, 3) := by decide +kernel
theorem dX1_pour_40 : decode cX1_pour 40 = .ok (.iastore, 1) := by decide +kernel
theorem dX1_pour_41 : decode cX1_pour 41 = .ok (.aload_n 0, 1) := by decide +kernel
theorem dX1_pour_42 : decode cX1_pour 42 = .ok (.getfield 10, 3) := by decide +kernel
theorem dX1_pour_45 : decode cX1_pour 45 = .ok (.getfield 31, 3) := by decide +kernel
theorem dX1_pour_48 : decode cX1_pour 48 = .ok (.iload 4, 2) := by decide +kernel
theorem dX1_pour_50 : decode cX1_pour 50 = .ok (.iaload, 1) := by decide +kernel
theorem dX1_pour_51 : decode cX1_pour 51 = .ok (.ireturn, 1) := by decide +kernel
set_option maxRecDepth 20000 in
theorem ggX1_dam_X1_placeOf : GoodIn wsX1_dam wsX1_placeOf := goodIn_ca (goodIn_r _ [7, 8, 9, 6, 10, 11, 12] (by decide +kernel) (by decide +kernel)) (goodIn_sub (fun _ h => List.mem_cons_of_mem _ (List.mem_append_left _ (List.mem_append_right _ h))) (by decide +kernel))
set_option maxRecDepth 20000 in
theorem gX1_dam_X1_placeOf : GoodIn wsX1_dam (va_wsS RX1 19 yX1_placeOf wsX1_placeOf) := goodIn_app (goodIn_of _ (by decide +kernel)) ggX1_dam_X1_placeOf
set_option maxRecDepth 20000 in
theorem ggX1_dam_X1_requireWithin : GoodIn wsX1_dam wsX1_requireWithin := goodIn_ca (goodIn_r _ [15, 16, 17] (by decide +kernel) (by decide +kernel)) (goodIn_sub (fun _ h => List.mem_cons_of_mem _ (List.mem_append_right _ h)) (by decide +kernel))
set_option maxRecDepth 20000 in
theorem gX1_dam_X1_requireWithin : GoodIn wsX1_dam (va_wsS RX1 23 yX1_requireWithin wsX1_requireWithin) := goodIn_app (goodIn_of _ (by decide +kernel)) ggX1_dam_X1_requireWithin
theorem dX1_dam_0 : decode cX1_dam 0 = .ok (.iload_n 1, 1) := by decide +kernel
theorem dX1_dam_1 : decode cX1_dam 1 = .ok (.iload_n 2, 1) := by decide +kernel
theorem dX1_dam_2 : decode cX1_dam 2 = .ok (.invokestatic 19, 3) := by decide +kernel
theorem dX1_dam_5 : decode cX1_dam 5 = .ok (.istore 4, 2) := by decide +kernel
theorem dX1_dam_7 : decode cX1_dam 7 = .ok (.iload_n 3, 1) := by decide +kernel
theorem dX1_dam_8 : decode cX1_dam 8 = .ok (.iconst 0, 1) := by decide +kernel
theorem dX1_dam_9 : decode cX1_dam 9 = .ok (.bipush 20, 2) := by decide +kernel
theorem dX1_dam_11 : decode cX1_dam 11 = .ok (.invokestatic 23, 3) := by decide +kernel
theorem dX1_dam_14 : decode cX1_dam 14 = .ok (.aload_n 0, 1) := by decide +kernel
theorem dX1_dam_15 : decode cX1_dam 15 = .ok (.getfield 10, 3) := by decide +kernel
theorem dX1_dam_18 : decode cX1_dam 18 = .ok (.getfield 39, 3) := by decide +kernel
theorem dX1_dam_21 : decode cX1_dam 21 = .ok (.iload 4, 2) := by decide +kernel
theorem dX1_dam_23 : decode cX1_dam 23 = .ok (.iaload, 1) := by decide +kernel
theorem dX1_dam_24 : decode cX1_dam 24 = .ok (.istore 5, 2) := by decide +kernel
theorem dX1_dam_26 : decode cX1_dam 26 = .ok (.aload_n 0, 1) := by decide +kernel
theorem dX1_dam_27 : decode cX1_dam 27 = .ok (.getfield 10, 3) := by decide +kernel
theorem dX1_dam_30 : decode cX1_dam 30 = .ok (.getfield 39, 3) := by decide +kernel
theorem dX1_dam_33 : decode cX1_dam 33 = .ok (.iload 4, 2) := by decide +kernel
theorem dX1_dam_35 : decode cX1_dam 35 = .ok (.iload_n 3, 1) := by decide +kernel
theorem dX1_dam_36 : decode cX1_dam 36 = .ok (.iastore, 1) := by decide +kernel
theorem dX1_dam_37 : decode cX1_dam 37 = .ok (.aload_n 0, 1) := by decide +kernel
theorem dX1_dam_38 : decode cX1_dam 38 = .ok (.getfield 10, 3) := by decide +kernel
theorem dX1_dam_41 : decode cX1_dam 41 = .ok (.getfield 42, 3) := by decide +kernel
theorem dX1_dam_44 : decode cX1_dam 44 = .ok (.iload 4, 2) := by decide +kernel
theorem dX1_dam_46 : decode cX1_dam 46 = .ok (.iconst 0, 1) := by decide +kernel
theorem dX1_dam_47 : decode cX1_dam 47 = .ok (.iastore, 1) := by decide +kernel
theorem dX1_dam_48 : decode cX1_dam 48 = .ok (.iload 5, 2) := by decide +kernel
theorem dX1_dam_50 : decode cX1_dam 50 = .ok (.ireturn, 1) := by decide +kernel
set_option maxRecDepth 20000 in
theorem ggX1_drain_X1_placeOf : GoodIn wsX1_drain wsX1_placeOf := goodIn_ca (goodIn_r _ [6, 7, 8, 5, 9, 10, 11] (by decide +kernel) (by decide +kernel)) (goodIn_sub (fun _ h => List.mem_cons_of_mem _ (List.mem_append_left _ (List.mem_append_right _ h))) (by decide +kernel))
set_option maxRecDepth 20000 in
theorem gX1_drain_X1_placeOf : GoodIn wsX1_drain (va_wsS RX1 19 yX1_placeOf wsX1_placeOf) := goodIn_app (goodIn_of _ (by decide +kernel)) ggX1_drain_X1_placeOf
set_option maxRecDepth 20000 in
theorem ggX1_drain_X1_requireWithin : GoodIn wsX1_drain wsX1_requireWithin := goodIn_ca (goodIn_r _ [14, 15, 16] (by decide +kernel) (by decide +kernel)) (goodIn_sub (fun _ h => List.mem_cons_of_mem _ (List.mem_append_right _ h)) (by decide +kernel))
set_option maxRecDepth 20000 in
theorem gX1_drain_X1_requireWithin : GoodIn wsX1_drain (va_wsS RX1 23 yX1_requireWithin wsX1_requireWithin) := goodIn_app (goodIn_of _ (by decide +kernel)) ggX1_drain_X1_requireWithin
theorem dX1_drain_0 : decode cX1_drain 0 = .ok (.iload_n 1, 1) := by decide +kernel
theorem dX1_drain_1 : decode cX1_drain 1 = .ok (.iload_n 2, 1) := by decide +kernel
theorem dX1_drain_2 : decode cX1_drain 2 = .ok (.invokestatic 19, 3) := by decide +kernel
theorem dX1_drain_5 : decode cX1_drain 5 = .ok (.istore 4, 2) := by decide +kernel
theorem dX1_drain_7 : decode cX1_drain 7 = .ok (.iload_n 3, 1) := by decide +kernel
theorem dX1_drain_8 : decode cX1_drain 8 = .ok (.iconst 0, 1) := by decide +kernel
theorem dX1_drain_9 : decode cX1_drain 9 = .ok (.bipush 9, 2) := by decide +kernel
theorem dX1_drain_11 : decode cX1_drain 11 = .ok (.invokestatic 23, 3) := by decide +kernel
theorem dX1_drain_14 : decode cX1_drain 14 = .ok (.aload_n 0, 1) := by decide +kernel
theorem dX1_drain_15 : decode cX1_drain 15 = .ok (.getfield 10, 3) := by decide +kernel
theorem dX1_drain_18 : decode cX1_drain 18 = .ok (.getfield 45, 3) := by decide +kernel
theorem dX1_drain_21 : decode cX1_drain 21 = .ok (.iload 4, 2) := by decide +kernel
theorem dX1_drain_23 : decode cX1_drain 23 = .ok (.iaload, 1) := by decide +kernel
theorem dX1_drain_24 : decode cX1_drain 24 = .ok (.istore 5, 2) := by decide +kernel
theorem dX1_drain_26 : decode cX1_drain 26 = .ok (.aload_n 0, 1) := by decide +kernel
theorem dX1_drain_27 : decode cX1_drain 27 = .ok (.getfield 10, 3) := by decide +kernel
theorem dX1_drain_30 : decode cX1_drain 30 = .ok (.getfield 45, 3) := by decide +kernel
theorem dX1_drain_33 : decode cX1_drain 33 = .ok (.iload 4, 2) := by decide +kernel
theorem dX1_drain_35 : decode cX1_drain 35 = .ok (.iload_n 3, 1) := by decide +kernel
theorem dX1_drain_36 : decode cX1_drain 36 = .ok (.iastore, 1) := by decide +kernel
theorem dX1_drain_37 : decode cX1_drain 37 = .ok (.iload 5, 2) := by decide +kernel
theorem dX1_drain_39 : decode cX1_drain 39 = .ok (.ireturn, 1) := by decide +kernel
set_option maxRecDepth 20000 in
theorem ggX1_settle_X1_placeOf : GoodIn wsX1_settle wsX1_placeOf := goodIn_ca (goodIn_r _ [6, 7, 8, 5, 9, 10, 11] (by decide +kernel) (by decide +kernel)) (goodIn_sub (fun _ h => List.mem_cons_of_mem _ (List.mem_append_left _ (List.mem_append_right _ h))) (by decide +kernel))
set_option maxRecDepth 20000 in
theorem gX1_settle_X1_placeOf : GoodIn wsX1_settle (va_wsS RX1 19 yX1_placeOf wsX1_placeOf) := goodIn_app (goodIn_of _ (by decide +kernel)) ggX1_settle_X1_placeOf
set_option maxRecDepth 20000 in
theorem ggX1_settle_X1_requireWithin : GoodIn wsX1_settle wsX1_requireWithin := goodIn_ca (goodIn_r _ [14, 15, 16] (by decide +kernel) (by decide +kernel)) (goodIn_sub (fun _ h => List.mem_cons_of_mem _ (List.mem_append_right _ h)) (by decide +kernel))
set_option maxRecDepth 20000 in
theorem gX1_settle_X1_requireWithin : GoodIn wsX1_settle (va_wsS RX1 23 yX1_requireWithin wsX1_requireWithin) := goodIn_app (goodIn_of _ (by decide +kernel)) ggX1_settle_X1_requireWithin
theorem dX1_settle_0 : decode cX1_settle 0 = .ok (.iload_n 1, 1) := by decide +kernel
theorem dX1_settle_1 : decode cX1_settle 1 = .ok (.iload_n 2, 1) := by decide +kernel
theorem dX1_settle_2 : decode cX1_settle 2 = .ok (.invokestatic 19, 3) := by decide +kernel
theorem dX1_settle_5 : decode cX1_settle 5 = .ok (.istore 4, 2) := by decide +kernel
theorem dX1_settle_7 : decode cX1_settle 7 = .ok (.iload_n 3, 1) := by decide +kernel
theorem dX1_settle_8 : decode cX1_settle 8 = .ok (.iconst 0, 1) := by decide +kernel
theorem dX1_settle_9 : decode cX1_settle 9 = .ok (.bipush 90, 2) := by decide +kernel
theorem dX1_settle_11 : decode cX1_settle 11 = .ok (.invokestatic 23, 3) := by decide +kernel
theorem dX1_settle_14 : decode cX1_settle 14 = .ok (.aload_n 0, 1) := by decide +kernel
theorem dX1_settle_15 : decode cX1_settle 15 = .ok (.getfield 10, 3) := by decide +kernel
theorem dX1_settle_18 : decode cX1_settle 18 = .ok (.getfield 48, 3) := by decide +kernel
theorem dX1_settle_21 : decode cX1_settle 21 = .ok (.iload 4, 2) := by decide +kernel
theorem dX1_settle_23 : decode cX1_settle 23 = .ok (.iaload, 1) := by decide +kernel
theorem dX1_settle_24 : decode cX1_settle 24 = .ok (.istore 5, 2) := by decide +kernel
theorem dX1_settle_26 : decode cX1_settle 26 = .ok (.aload_n 0, 1) := by decide +kernel
theorem dX1_settle_27 : decode cX1_settle 27 = .ok (.getfield 10, 3) := by decide +kernel
theorem dX1_settle_30 : decode cX1_settle 30 = .ok (.getfield 48, 3) := by decide +kernel
theorem dX1_settle_33 : decode cX1_settle 33 = .ok (.iload 4, 2) := by decide +kernel
theorem dX1_settle_35 : decode cX1_settle 35 = .ok (.iload_n 3, 1) := by decide +kernel
theorem dX1_settle_36 : decode cX1_settle 36 = .ok (.iastore, 1) := by decide +kernel
theorem dX1_settle_37 : decode cX1_settle 37 = .ok (.iload 5, 2) := by decide +kernel
theorem dX1_settle_39 : decode cX1_settle 39 = .ok (.ireturn, 1) := by decide +kernel
set_option maxRecDepth 20000 in
theorem ggX1_setRain_X1_requireIndex : GoodIn wsX1_setRain wsX1_requireIndex := goodIn_ca (goodIn_r _ [6, 7, 8] (by decide +kernel) (by decide +kernel)) (goodIn_sub (fun _ h => List.mem_cons_of_mem _ (List.mem_append_left _ (List.mem_append_right _ h))) (by decide +kernel))
set_option maxRecDepth 20000 in
theorem gX1_setRain_X1_requireIndex : GoodIn wsX1_setRain (va_wsS RX1 51 yX1_requireIndex wsX1_requireIndex) := goodIn_app (goodIn_of _ (by decide +kernel)) ggX1_setRain_X1_requireIndex
set_option maxRecDepth 20000 in
theorem ggX1_setRain_X1_requireWithin : GoodIn wsX1_setRain wsX1_requireWithin := goodIn_ca (goodIn_r _ [11, 12, 13] (by decide +kernel) (by decide +kernel)) (goodIn_sub (fun _ h => List.mem_cons_of_mem _ (List.mem_append_right _ h)) (by decide +kernel))
set_option maxRecDepth 20000 in
theorem gX1_setRain_X1_requireWithin : GoodIn wsX1_setRain (va_wsS RX1 23 yX1_requireWithin wsX1_requireWithin) := goodIn_app (goodIn_of _ (by decide +kernel)) ggX1_setRain_X1_requireWithin
theorem dX1_setRain_0 : decode cX1_setRain 0 = .ok (.iload_n 1, 1) := by decide +kernel
theorem dX1_setRain_1 : decode cX1_setRain 1 = .ok (.iconst 0, 1) := by decide +kernel
theorem dX1_setRain_2 : decode cX1_setRain 2 = .ok (.bipush 11, 2) := by decide +kernel
theorem dX1_setRain_4 : decode cX1_setRain 4 = .ok (.invokestatic 51, 3) := by decide +kernel
theorem dX1_setRain_7 : decode cX1_setRain 7 = .ok (.iload_n 2, 1) := by decide +kernel
theorem dX1_setRain_8 : decode cX1_setRain 8 = .ok (.iconst 0, 1) := by decide +kernel
theorem dX1_setRain_9 : decode cX1_setRain 9 = .ok (.bipush 9, 2) := by decide +kernel
theorem dX1_setRain_11 : decode cX1_setRain 11 = .ok (.invokestatic 23, 3) := by decide +kernel
theorem dX1_setRain_14 : decode cX1_setRain 14 = .ok (.aload_n 0, 1) := by decide +kernel
theorem dX1_setRain_15 : decode cX1_setRain 15 = .ok (.getfield 10, 3) := by decide +kernel
theorem dX1_setRain_18 : decode cX1_setRain 18 = .ok (.getfield 54, 3) := by decide +kernel
theorem dX1_setRain_21 : decode cX1_setRain 21 = .ok (.iload_n 1, 1) := by decide +kernel
theorem dX1_setRain_22 : decode cX1_setRain 22 = .ok (.iaload, 1) := by decide +kernel
theorem dX1_setRain_23 : decode cX1_setRain 23 = .ok (.istore_n 3, 1) := by decide +kernel
theorem dX1_setRain_24 : decode cX1_setRain 24 = .ok (.aload_n 0, 1) := by decide +kernel
theorem dX1_setRain_25 : decode cX1_setRain 25 = .ok (.getfield 10, 3) := by decide +kernel
theorem dX1_setRain_28 : decode cX1_setRain 28 = .ok (.getfield 54, 3) := by decide +kernel
theorem dX1_setRain_31 : decode cX1_setRain 31 = .ok (.iload_n 1, 1) := by decide +kernel
theorem dX1_setRain_32 : decode cX1_setRain 32 = .ok (.iload_n 2, 1) := by decide +kernel
theorem dX1_setRain_33 : decode cX1_setRain 33 = .ok (.iastore, 1) := by decide +kernel
theorem dX1_setRain_34 : decode cX1_setRain 34 = .ok (.iload_n 3, 1) := by decide +kernel
theorem dX1_setRain_35 : decode cX1_setRain 35 = .ok (.ireturn, 1) := by decide +kernel
set_option maxRecDepth 20000 in
theorem ggX1_cell_X1_placeOf : GoodIn wsX1_cell wsX1_placeOf := goodIn_ca (goodIn_r _ [5, 6, 7, 4, 8, 9, 10] (by decide +kernel) (by decide +kernel)) (goodIn_sub (fun _ h => List.mem_cons_of_mem _ (List.mem_append_right _ h)) (by decide +kernel))
set_option maxRecDepth 20000 in
theorem gX1_cell_X1_placeOf : GoodIn wsX1_cell (va_wsS RX1 19 yX1_placeOf wsX1_placeOf) := goodIn_app (goodIn_of _ (by decide +kernel)) ggX1_cell_X1_placeOf
set_option maxRecDepth 20000 in
theorem ggX1_cell_X1_requireIndex : GoodIn wsX1_cell wsX1_requireIndex := goodIn_ca (goodIn_r _ [8, 9, 10] (by decide +kernel) (by decide +kernel)) (goodIn_sub (fun _ h => List.mem_cons_of_mem _ (List.mem_append_right _ h)) (by decide +kernel))
set_option maxRecDepth 20000 in
theorem gX1_cell_X1_requireIndex : GoodIn wsX1_cell (va_wsS RX1 51 yX1_requireIndex wsX1_requireIndex) := goodIn_app (goodIn_of _ (by decide +kernel)) ggX1_cell_X1_requireIndex
set_option maxRecDepth 20000 in
theorem ggX1_cell_X0_cellNumber : GoodIn wsX1_cell wsX0_cellNumber := goodIn_r _ [15, 16, 17, 18, 19, 20, 21, 22, 23, 24, 14, 25, 26, 27, 28, 29, 30, 31, 32, 33, 36, 37, 38, 39, 40, 41, 42, 43, 44, 45, 46, 47, 48, 49, 50] (by decide +kernel) (by decide +kernel)
set_option maxRecDepth 20000 in
theorem gX1_cell_X0_cellNumber : GoodIn wsX1_cell (wsV RX1 57 RX0 yX0_cellNumber wsX0_cellNumber) := goodIn_app (goodIn_of _ (by decide +kernel)) ggX1_cell_X0_cellNumber
theorem dX1_cell_0 : decode cX1_cell 0 = .ok (.iload_n 1, 1) := by decide +kernel
theorem dX1_cell_1 : decode cX1_cell 1 = .ok (.iload_n 2, 1) := by decide +kernel
theorem dX1_cell_2 : decode cX1_cell 2 = .ok (.invokestatic 19, 3) := by decide +kernel
theorem dX1_cell_5 : decode cX1_cell 5 = .ok (.istore 4, 2) := by decide +kernel
theorem dX1_cell_7 : decode cX1_cell 7 = .ok (.iload_n 3, 1) := by decide +kernel
theorem dX1_cell_8 : decode cX1_cell 8 = .ok (.iconst 0, 1) := by decide +kernel
theorem dX1_cell_9 : decode cX1_cell 9 = .ok (.bipush 7, 2) := by decide +kernel
theorem dX1_cell_11 : decode cX1_cell 11 = .ok (.invokestatic 51, 3) := by decide +kernel
theorem dX1_cell_14 : decode cX1_cell 14 = .ok (.aload_n 0, 1) := by decide +kernel
theorem dX1_cell_15 : decode cX1_cell 15 = .ok (.getfield 10, 3) := by decide +kernel
theorem dX1_cell_18 : decode cX1_cell 18 = .ok (.iload 4, 2) := by decide +kernel
theorem dX1_cell_20 : decode cX1_cell 20 = .ok (.iload_n 3, 1) := by decide +kernel
theorem dX1_cell_21 : decode cX1_cell 21 = .ok (.invokevirtual 57, 3) := by decide +kernel
theorem dX1_cell_24 : decode cX1_cell 24 = .ok (.ireturn, 1) := by decide +kernel
set_option maxRecDepth 20000 in
theorem ggX1_lake_X1_placeOf : GoodIn wsX1_lake wsX1_placeOf := goodIn_ca (goodIn_r _ [5, 6, 7, 4, 8, 9, 10] (by decide +kernel) (by decide +kernel)) (goodIn_sub (fun _ h => List.mem_cons_of_mem _ (List.mem_append_right _ h)) (by decide +kernel))
set_option maxRecDepth 20000 in
theorem gX1_lake_X1_placeOf : GoodIn wsX1_lake (va_wsS RX1 19 yX1_placeOf wsX1_placeOf) := goodIn_app (goodIn_of _ (by decide +kernel)) ggX1_lake_X1_placeOf
set_option maxRecDepth 20000 in
theorem ggX1_lake_X0_lakeSize : GoodIn wsX1_lake wsX0_lakeSize := goodIn_r _ [15, 16, 17, 18, 19, 20, 21, 22, 23, 14, 24, 25, 26, 27, 28, 29, 30, 31, 32, 33, 36, 37, 38, 39, 40, 41, 42, 43, 44, 45, 46, 47, 48, 49, 50] (by decide +kernel) (by decide +kernel)
set_option maxRecDepth 20000 in
theorem gX1_lake_X0_lakeSize : GoodIn wsX1_lake (wsV RX1 60 RX0 yX0_lakeSize wsX0_lakeSize) := goodIn_app (goodIn_of _ (by decide +kernel)) ggX1_lake_X0_lakeSize
theorem dX1_lake_0 : decode cX1_lake 0 = .ok (.aload_n 0, 1) := by decide +kernel
theorem dX1_lake_1 : decode cX1_lake 1 = .ok (.getfield 10, 3) := by decide +kernel
theorem dX1_lake_4 : decode cX1_lake 4 = .ok (.iload_n 1, 1) := by decide +kernel
theorem dX1_lake_5 : decode cX1_lake 5 = .ok (.iload_n 2, 1) := by decide +kernel
theorem dX1_lake_6 : decode cX1_lake 6 = .ok (.invokestatic 19, 3) := by decide +kernel
theorem dX1_lake_9 : decode cX1_lake 9 = .ok (.invokevirtual 60, 3) := by decide +kernel
theorem dX1_lake_12 : decode cX1_lake 12 = .ok (.ireturn, 1) := by decide +kernel
set_option maxRecDepth 20000 in
theorem ggX1_count_X1_requireIndex : GoodIn wsX1_count wsX1_requireIndex := goodIn_ca (goodIn_r _ [5, 6, 7] (by decide +kernel) (by decide +kernel)) (goodIn_sub (fun _ h => List.mem_cons_of_mem _ (List.mem_append_right _ h)) (by decide +kernel))
set_option maxRecDepth 20000 in
theorem gX1_count_X1_requireIndex : GoodIn wsX1_count (va_wsS RX1 51 yX1_requireIndex wsX1_requireIndex) := goodIn_app (goodIn_of _ (by decide +kernel)) ggX1_count_X1_requireIndex
set_option maxRecDepth 20000 in
theorem ggX1_count_X0_tally : GoodIn wsX1_count wsX0_tally := goodIn_r _ [12, 13, 14, 15, 16, 17, 18, 19, 20, 21, 22, 11, 23, 24, 25, 26, 27, 28, 29, 30, 31, 32, 33, 34, 35, 36, 37, 38, 39, 40, 41, 42, 43, 44, 45, 46, 47, 48, 49, 50, 51, 52, 55, 56, 57, 58, 59, 60, 61, 62, 63, 64, 65, 66, 67, 68, 69] (by decide +kernel) (by decide +kernel)
set_option maxRecDepth 20000 in
theorem gX1_count_X0_tally : GoodIn wsX1_count (wsV RX1 64 RX0 yX0_tally wsX0_tally) := goodIn_app (goodIn_of _ (by decide +kernel)) ggX1_count_X0_tally
theorem dX1_count_0 : decode cX1_count 0 = .ok (.iload_n 1, 1) := by decide +kernel
theorem dX1_count_1 : decode cX1_count 1 = .ok (.iconst 0, 1) := by decide +kernel
theorem dX1_count_2 : decode cX1_count 2 = .ok (.bipush 8, 2) := by decide +kernel
theorem dX1_count_4 : decode cX1_count 4 = .ok (.invokestatic 51, 3) := by decide +kernel
theorem dX1_count_7 : decode cX1_count 7 = .ok (.aload_n 0, 1) := by decide +kernel
theorem dX1_count_8 : decode cX1_count 8 = .ok (.getfield 10, 3) := by decide +kernel
theorem dX1_count_11 : decode cX1_count 11 = .ok (.iload_n 1, 1) := by decide +kernel
theorem dX1_count_12 : decode cX1_count 12 = .ok (.invokevirtual 64, 3) := by decide +kernel
theorem dX1_count_15 : decode cX1_count 15 = .ok (.ireturn, 1) := by decide +kernel
set_option maxRecDepth 20000 in
theorem ggX1_pass_X1_requireWithin : GoodIn wsX1_pass wsX1_requireWithin := goodIn_ca (goodIn_r _ [5, 6, 7] (by decide +kernel) (by decide +kernel)) (goodIn_sub (fun _ h => List.mem_cons_of_mem _ (List.mem_append_right _ h)) (by decide +kernel))
set_option maxRecDepth 20000 in
theorem gX1_pass_X1_requireWithin : GoodIn wsX1_pass (va_wsS RX1 23 yX1_requireWithin wsX1_requireWithin) := goodIn_app (goodIn_of _ (by decide +kernel)) ggX1_pass_X1_requireWithin
set_option maxRecDepth 20000 in
theorem ggX1_pass_X0_goHours : GoodIn wsX1_pass wsX0_goHours := goodIn_r _ [12, 13, 14, 15, 16, 11, 17, 18, 19, 20, 21, 22, 23, 24, 25, 26, 27, 28, 29, 30, 31, 32, 33, 34, 35, 36, 37, 38, 39, 40, 41, 42, 43, 44, 45, 46, 47, 48, 49, 50, 51, 52, 53, 54, 55, 56, 57, 58, 59, 60, 61, 62, 63, 64, 65, 66, 67, 68, 69, 70, 71, 72, 73, 74, 75, 76, 77, 78, 79, 80, 81, 82, 83, 86, 87, 88, 89, 90, 91, 92, 93, 94, 95, 96, 97, 98, 99, 100] (by decide +kernel) (by decide +kernel)
set_option maxRecDepth 20000 in
theorem gX1_pass_X0_goHours : GoodIn wsX1_pass (wsV RX1 67 RX0 yX0_goHours wsX0_goHours) := goodIn_app (goodIn_of _ (by decide +kernel)) ggX1_pass_X0_goHours
theorem dX1_pass_0 : decode cX1_pass 0 = .ok (.iload_n 1, 1) := by decide +kernel
theorem dX1_pass_1 : decode cX1_pass 1 = .ok (.iconst 1, 1) := by decide +kernel
theorem dX1_pass_2 : decode cX1_pass 2 = .ok (.bipush 48, 2) := by decide +kernel
theorem dX1_pass_4 : decode cX1_pass 4 = .ok (.invokestatic 23, 3) := by decide +kernel
theorem dX1_pass_7 : decode cX1_pass 7 = .ok (.aload_n 0, 1) := by decide +kernel
theorem dX1_pass_8 : decode cX1_pass 8 = .ok (.getfield 10, 3) := by decide +kernel
theorem dX1_pass_11 : decode cX1_pass 11 = .ok (.iload_n 1, 1) := by decide +kernel
theorem dX1_pass_12 : decode cX1_pass 12 = .ok (.invokevirtual 67, 3) := by decide +kernel
theorem dX1_pass_15 : decode cX1_pass 15 = .ok (.ireturn, 1) := by decide +kernel
set_option maxRecDepth 20000 in
theorem ggX1_floods_X1_placeOf : GoodIn wsX1_floods wsX1_placeOf := goodIn_ca (goodIn_r _ [7, 8, 9, 6, 10, 11, 12] (by decide +kernel) (by decide +kernel)) (goodIn_sub (fun _ h => List.mem_cons_of_mem _ (List.mem_append_right _ h)) (by decide +kernel))
set_option maxRecDepth 20000 in
theorem gX1_floods_X1_placeOf : GoodIn wsX1_floods (va_wsS RX1 19 yX1_placeOf wsX1_placeOf) := goodIn_app (goodIn_of _ (by decide +kernel)) ggX1_floods_X1_placeOf
set_option maxRecDepth 20000 in
theorem ggX1_floods_X0_becomeLike : GoodIn wsX1_floods wsX0_becomeLike := goodIn_r _ [17, 18, 19, 20, 21, 22, 23, 24, 25, 26, 27, 28, 29, 30, 31, 32, 95, 96, 97, 98, 99, 100, 101, 102, 103, 104, 105, 106, 107, 108, 109] (by decide +kernel) (by decide +kernel)
set_option maxRecDepth 20000 in
theorem gX1_floods_X0_becomeLike : GoodIn wsX1_floods (wsV RX1 70 RX0 yX0_becomeLike wsX0_becomeLike) := goodIn_app (goodIn_of _ (by decide +kernel)) ggX1_floods_X0_becomeLike
set_option maxRecDepth 20000 in
theorem ggX1_floods_X0_goOneHour : GoodIn wsX1_floods wsX0_goOneHour := goodIn_r _ [36, 29, 37, 38, 39, 16, 40, 28, 23, 41, 42, 43, 44, 45, 46, 47, 48, 49, 50, 24, 51, 52, 53, 54, 18, 55, 56, 57, 58, 59, 60, 61, 62, 63, 64, 65, 66, 67, 68, 69, 70, 71, 72, 73, 74, 75, 76, 77, 78, 79, 80, 81, 82, 83, 84, 25, 30, 85, 86, 87, 88, 26, 31, 89, 90, 91, 92, 27, 32, 95, 96, 97, 98, 99, 100, 101, 102, 103, 104, 105, 106, 107, 108, 109] (by decide +kernel) (by decide +kernel)
set_option maxRecDepth 20000 in
theorem gX1_floods_X0_goOneHour : GoodIn wsX1_floods (wsV RX1 74 RX0 yX0_goOneHour wsX0_goOneHour) := goodIn_app (goodIn_of _ (by decide +kernel)) ggX1_floods_X0_goOneHour
theorem dX1_floods_0 : decode cX1_floods 0 = .ok (.iload_n 1, 1) := by decide +kernel
theorem dX1_floods_1 : decode cX1_floods 1 = .ok (.iload_n 2, 1) := by decide +kernel
theorem dX1_floods_2 : decode cX1_floods 2 = .ok (.invokestatic 19, 3) := by decide +kernel
theorem dX1_floods_5 : decode cX1_floods 5 = .ok (.istore_n 3, 1) := by decide +kernel
theorem dX1_floods_6 : decode cX1_floods 6 = .ok (.aload_n 0, 1) := by decide +kernel
theorem dX1_floods_7 : decode cX1_floods 7 = .ok (.getfield 16, 3) := by decide +kernel
theorem dX1_floods_10 : decode cX1_floods 10 = .ok (.aload_n 0, 1) := by decide +kernel
theorem dX1_floods_11 : decode cX1_floods 11 = .ok (.getfield 10, 3) := by decide +kernel
theorem dX1_floods_14 : decode cX1_floods 14 = .ok (.invokevirtual 70, 3) := by decide +kernel
theorem dX1_floods_17 : decode cX1_floods 17 = .ok (.aload_n 0, 1) := by decide +kernel
theorem dX1_floods_18 : decode cX1_floods 18 = .ok (.getfield 16, 3) := by decide +kernel
theorem dX1_floods_21 : decode cX1_floods 21 = .ok (.getfield 31, 3) := by decide +kernel
theorem dX1_floods_24 : decode cX1_floods 24 = .ok (.iload_n 3, 1) := by decide +kernel
theorem dX1_floods_25 : decode cX1_floods 25 = .ok (.iaload, 1) := by decide +kernel
theorem dX1_floods_26 : decode cX1_floods 26 = .ok (.iconst 3, 1) := by decide +kernel
theorem dX1_floods_27 : decode cX1_floods 27 = .ok (.if_icmp .lt 5, 3) := by decide +kernel
theorem dX1_floods_30 : decode cX1_floods 30 = .ok (.iconst 0, 1) := by decide +kernel
theorem dX1_floods_31 : decode cX1_floods 31 = .ok (.ireturn, 1) := by decide +kernel
theorem dX1_floods_32 : decode cX1_floods 32 = .ok (.iconst 1, 1) := by decide +kernel
theorem dX1_floods_33 : decode cX1_floods 33 = .ok (.istore 4, 2) := by decide +kernel
theorem dX1_floods_35 : decode cX1_floods 35 = .ok (.iload 4, 2) := by decide +kernel
theorem dX1_floods_37 : decode cX1_floods 37 = .ok (.bipush 48, 2) := by decide +kernel
theorem dX1_floods_39 : decode cX1_floods 39 = .ok (.if_icmp .gt 32, 3) := by decide +kernel
theorem dX1_floods_42 : decode cX1_floods 42 = .ok (.aload_n 0, 1) := by decide +kernel
theorem dX1_floods_43 : decode cX1_floods 43 = .ok (.getfield 16, 3) := by decide +kernel
theorem dX1_floods_46 : decode cX1_floods 46 = .ok (.invokevirtual 74, 3) := by decide +kernel
theorem dX1_floods_49 : decode cX1_floods 49 = .ok (.aload_n 0, 1) := by decide +kernel
theorem dX1_floods_50 : decode cX1_floods 50 = .ok (.getfield 16, 3) := by decide +kernel
theorem dX1_floods_53 : decode cX1_floods 53 = .ok (.getfield 31, 3) := by decide +kernel
theorem dX1_floods_56 : decode cX1_floods 56 = .ok (.iload_n 3, 1) := by decide +kernel
theorem dX1_floods_57 : decode cX1_floods 57 = .ok (.iaload, 1) := by decide +kernel
theorem dX1_floods_58 : decode cX1_floods 58 = .ok (.iconst 3, 1) := by decide +kernel
theorem dX1_floods_59 : decode cX1_floods 59 = .ok (.if_icmp .lt 6, 3) := by decide +kernel
theorem dX1_floods_62 : decode cX1_floods 62 = .ok (.iload 4, 2) := by decide +kernel
theorem dX1_floods_64 : decode cX1_floods 64 = .ok (.ireturn, 1) := by decide +kernel
theorem dX1_floods_65 : decode cX1_floods 65 = .ok (.iinc 4 1, 3) := by decide +kernel
theorem dX1_floods_68 : decode cX1_floods 68 = .ok (.goto (-33), 3) := by decide +kernel
theorem dX1_floods_71 : decode cX1_floods 71 = .ok (.iconst (-1), 1) := by decide +kernel
theorem dX1_floods_72 : decode cX1_floods 72 = .ok (.ireturn, 1) := by decide +kernel
set_option maxRecDepth 20000 in
theorem ggX1_breaks_X1_placeOf : GoodIn wsX1_breaks wsX1_placeOf := goodIn_ca (goodIn_r _ [7, 8, 9, 6, 10, 11, 12] (by decide +kernel) (by decide +kernel)) (goodIn_sub (fun _ h => List.mem_cons_of_mem _ (List.mem_append_right _ h)) (by decide +kernel))
set_option maxRecDepth 20000 in
theorem gX1_breaks_X1_placeOf : GoodIn wsX1_breaks (va_wsS RX1 19 yX1_placeOf wsX1_placeOf) := goodIn_app (goodIn_of _ (by decide +kernel)) ggX1_breaks_X1_placeOf
set_option maxRecDepth 20000 in
theorem ggX1_breaks_X0_becomeLike : GoodIn wsX1_breaks wsX0_becomeLike := goodIn_r _ [17, 18, 19, 20, 21, 22, 23, 24, 25, 26, 27, 28, 29, 30, 31, 32, 95, 96, 97, 98, 99, 100, 101, 102, 103, 104, 105, 106, 107, 108, 109] (by decide +kernel) (by decide +kernel)
set_option maxRecDepth 20000 in
theorem gX1_breaks_X0_becomeLike : GoodIn wsX1_breaks (wsV RX1 70 RX0 yX0_becomeLike wsX0_becomeLike) := goodIn_app (goodIn_of _ (by decide +kernel)) ggX1_breaks_X0_becomeLike
set_option maxRecDepth 20000 in
theorem ggX1_breaks_X0_goOneHour : GoodIn wsX1_breaks wsX0_goOneHour := goodIn_r _ [36, 29, 37, 38, 39, 16, 40, 28, 23, 41, 42, 43, 44, 45, 46, 47, 48, 49, 50, 24, 51, 52, 53, 54, 18, 55, 56, 57, 58, 59, 60, 61, 62, 63, 64, 65, 66, 67, 68, 69, 70, 71, 72, 73, 74, 75, 76, 77, 78, 79, 80, 81, 82, 83, 84, 25, 30, 85, 86, 87, 88, 26, 31, 89, 90, 91, 92, 27, 32, 95, 96, 97, 98, 99, 100, 101, 102, 103, 104, 105, 106, 107, 108, 109] (by decide +kernel) (by decide +kernel)
set_option maxRecDepth 20000 in
theorem gX1_breaks_X0_goOneHour : GoodIn wsX1_breaks (wsV RX1 74 RX0 yX0_goOneHour wsX0_goOneHour) := goodIn_app (goodIn_of _ (by decide +kernel)) ggX1_breaks_X0_goOneHour
theorem dX1_breaks_0 : decode cX1_breaks 0 = .ok (.iload_n 1, 1) := by decide +kernel
theorem dX1_breaks_1 : decode cX1_breaks 1 = .ok (.iload_n 2, 1) := by decide +kernel
theorem dX1_breaks_2 : decode cX1_breaks 2 = .ok (.invokestatic 19, 3) := by decide +kernel
theorem dX1_breaks_5 : decode cX1_breaks 5 = .ok (.istore_n 3, 1) := by decide +kernel
theorem dX1_breaks_6 : decode cX1_breaks 6 = .ok (.aload_n 0, 1) := by decide +kernel
theorem dX1_breaks_7 : decode cX1_breaks 7 = .ok (.getfield 10, 3) := by decide +kernel
theorem dX1_breaks_10 : decode cX1_breaks 10 = .ok (.getfield 39, 3) := by decide +kernel
theorem dX1_breaks_13 : decode cX1_breaks 13 = .ok (.iload_n 3, 1) := by decide +kernel
theorem dX1_breaks_14 : decode cX1_breaks 14 = .ok (.iaload, 1) := by decide +kernel
theorem dX1_breaks_15 : decode cX1_breaks 15 = .ok (.ifCond .ne 5, 3) := by decide +kernel
theorem dX1_breaks_18 : decode cX1_breaks 18 = .ok (.iconst (-1), 1) := by decide +kernel
theorem dX1_breaks_19 : decode cX1_breaks 19 = .ok (.ireturn, 1) := by decide +kernel
theorem dX1_breaks_20 : decode cX1_breaks 20 = .ok (.aload_n 0, 1) := by decide +kernel
theorem dX1_breaks_21 : decode cX1_breaks 21 = .ok (.getfield 16, 3) := by decide +kernel
theorem dX1_breaks_24 : decode cX1_breaks 24 = .ok (.aload_n 0, 1) := by decide +kernel
theorem dX1_breaks_25 : decode cX1_breaks 25 = .ok (.getfield 10, 3) := by decide +kernel
theorem dX1_breaks_28 : decode cX1_breaks 28 = .ok (.invokevirtual 70, 3) := by decide +kernel
theorem dX1_breaks_31 : decode cX1_breaks 31 = .ok (.iconst 1, 1) := by decide +kernel
theorem dX1_breaks_32 : decode cX1_breaks 32 = .ok (.istore 4, 2) := by decide +kernel
theorem dX1_breaks_34 : decode cX1_breaks 34 = .ok (.iload 4, 2) := by decide +kernel
theorem dX1_breaks_36 : decode cX1_breaks 36 = .ok (.bipush 48, 2) := by decide +kernel
theorem dX1_breaks_38 : decode cX1_breaks 38 = .ok (.if_icmp .gt 31, 3) := by decide +kernel
theorem dX1_breaks_41 : decode cX1_breaks 41 = .ok (.aload_n 0, 1) := by decide +kernel
theorem dX1_breaks_42 : decode cX1_breaks 42 = .ok (.getfield 16, 3) := by decide +kernel
theorem dX1_breaks_45 : decode cX1_breaks 45 = .ok (.invokevirtual 74, 3) := by decide +kernel
theorem dX1_breaks_48 : decode cX1_breaks 48 = .ok (.aload_n 0, 1) := by decide +kernel
theorem dX1_breaks_49 : decode cX1_breaks 49 = .ok (.getfield 16, 3) := by decide +kernel
theorem dX1_breaks_52 : decode cX1_breaks 52 = .ok (.getfield 39, 3) := by decide +kernel
theorem dX1_breaks_55 : decode cX1_breaks 55 = .ok (.iload_n 3, 1) := by decide +kernel
theorem dX1_breaks_56 : decode cX1_breaks 56 = .ok (.iaload, 1) := by decide +kernel
theorem dX1_breaks_57 : decode cX1_breaks 57 = .ok (.ifCond .ne 6, 3) := by decide +kernel
theorem dX1_breaks_60 : decode cX1_breaks 60 = .ok (.iload 4, 2) := by decide +kernel
theorem dX1_breaks_62 : decode cX1_breaks 62 = .ok (.ireturn, 1) := by decide +kernel
theorem dX1_breaks_63 : decode cX1_breaks 63 = .ok (.iinc 4 1, 3) := by decide +kernel
theorem dX1_breaks_66 : decode cX1_breaks 66 = .ok (.goto (-32), 3) := by decide +kernel
theorem dX1_breaks_69 : decode cX1_breaks 69 = .ok (.iconst (-1), 1) := by decide +kernel
theorem dX1_breaks_70 : decode cX1_breaks 70 = .ok (.ireturn, 1) := by decide +kernel
set_option maxRecDepth 20000 in
theorem ggX1_foresee_X1_requireWithin : GoodIn wsX1_foresee wsX1_requireWithin := goodIn_ca (goodIn_r _ [6, 7, 8] (by decide +kernel) (by decide +kernel)) (goodIn_sub (fun _ h => List.mem_cons_of_mem _ (List.mem_append_left _ (List.mem_append_right _ h))) (by decide +kernel))
set_option maxRecDepth 20000 in
theorem gX1_foresee_X1_requireWithin : GoodIn wsX1_foresee (va_wsS RX1 23 yX1_requireWithin wsX1_requireWithin) := goodIn_app (goodIn_of _ (by decide +kernel)) ggX1_foresee_X1_requireWithin
set_option maxRecDepth 20000 in
theorem ggX1_foresee_X1_requireIndex : GoodIn wsX1_foresee wsX1_requireIndex := goodIn_ca (goodIn_r _ [11, 12, 13] (by decide +kernel) (by decide +kernel)) (goodIn_sub (fun _ h => List.mem_cons_of_mem _ (List.mem_append_right _ h)) (by decide +kernel))
set_option maxRecDepth 20000 in
theorem gX1_foresee_X1_requireIndex : GoodIn wsX1_foresee (va_wsS RX1 51 yX1_requireIndex wsX1_requireIndex) := goodIn_app (goodIn_of _ (by decide +kernel)) ggX1_foresee_X1_requireIndex
set_option maxRecDepth 20000 in
theorem ggX1_foresee_X0_becomeLike : GoodIn wsX1_foresee wsX0_becomeLike := goodIn_r _ [18, 19, 20, 21, 22, 23, 24, 25, 26, 27, 28, 29, 30, 31, 32, 33, 130, 131, 132, 133, 134, 135, 136, 137, 138, 139, 140, 141, 142, 143, 144] (by decide +kernel) (by decide +kernel)
set_option maxRecDepth 20000 in
theorem gX1_foresee_X0_becomeLike : GoodIn wsX1_foresee (wsV RX1 70 RX0 yX0_becomeLike wsX0_becomeLike) := goodIn_app (goodIn_of _ (by decide +kernel)) ggX1_foresee_X0_becomeLike
set_option maxRecDepth 20000 in
theorem ggX1_foresee_X0_goHours : GoodIn wsX1_foresee wsX0_goHours := goodIn_r _ [37, 33, 38, 39, 40, 17, 41, 30, 42, 43, 44, 45, 29, 24, 46, 47, 48, 49, 50, 51, 52, 53, 54, 55, 25, 56, 57, 58, 59, 19, 60, 61, 62, 63, 64, 65, 66, 67, 68, 69, 70, 71, 72, 73, 74, 75, 76, 77, 78, 79, 80, 81, 82, 83, 84, 85, 86, 87, 88, 89, 26, 31, 90, 91, 92, 93, 27, 32, 94, 95, 96, 97, 28, 130, 131, 132, 133, 134, 135, 136, 137, 138, 139, 140, 141, 142, 143, 144] (by decide +kernel) (by decide +kernel)
set_option maxRecDepth 20000 in
theorem gX1_foresee_X0_goHours : GoodIn wsX1_foresee (wsV RX1 67 RX0 yX0_goHours wsX0_goHours) := goodIn_app (goodIn_of _ (by decide +kernel)) ggX1_foresee_X0_goHours
set_option maxRecDepth 20000 in
theorem ggX1_foresee_X0_tally : GoodIn wsX1_foresee wsX0_tally := goodIn_r _ [101, 30, 24, 25, 31, 32, 28, 33, 102, 103, 104, 17, 105, 106, 107, 108, 109, 110, 111, 112, 113, 114, 115, 116, 117, 118, 64, 65, 66, 67, 119, 120, 121, 122, 123, 124, 125, 126, 127, 72, 73, 74, 130, 131, 132, 133, 134, 135, 136, 137, 138, 139, 140, 141, 142, 143, 144] (by decide +kernel) (by decide +kernel)
set_option maxRecDepth 20000 in
theorem gX1_foresee_X0_tally : GoodIn wsX1_foresee (wsV RX1 64 RX0 yX0_tally wsX0_tally) := goodIn_app (goodIn_of _ (by decide +kernel)) ggX1_foresee_X0_tally
theorem dX1_foresee_0 : decode cX1_foresee 0 = .ok (.iload_n 1, 1) := by decide +kernel
theorem dX1_foresee_1 : decode cX1_foresee 1 = .ok (.iconst 1, 1) := by decide +kernel
theorem dX1_foresee_2 : decode cX1_foresee 2 = .ok (.bipush 48, 2) := by decide +kernel
theorem dX1_foresee_4 : decode cX1_foresee 4 = .ok (.invokestatic 23, 3) := by decide +kernel
theorem dX1_foresee_7 : decode cX1_foresee 7 = .ok (.iload_n 2, 1) := by decide +kernel
theorem dX1_foresee_8 : decode cX1_foresee 8 = .ok (.iconst 1, 1) := by decide +kernel
theorem dX1_foresee_9 : decode cX1_foresee 9 = .ok (.bipush 8, 2) := by decide +kernel
theorem dX1_foresee_11 : decode cX1_foresee 11 = .ok (.invokestatic 51, 3) := by decide +kernel
theorem dX1_foresee_14 : decode cX1_foresee 14 = .ok (.aload_n 0, 1) := by decide +kernel
theorem dX1_foresee_15 : decode cX1_foresee 15 = .ok (.getfield 16, 3) := by decide +kernel
theorem dX1_foresee_18 : decode cX1_foresee 18 = .ok (.aload_n 0, 1) := by decide +kernel
theorem dX1_foresee_19 : decode cX1_foresee 19 = .ok (.getfield 10, 3) := by decide +kernel
theorem dX1_foresee_22 : decode cX1_foresee 22 = .ok (.invokevirtual 70, 3) := by decide +kernel
theorem dX1_foresee_25 : decode cX1_foresee 25 = .ok (.aload_n 0, 1) := by decide +kernel
theorem dX1_foresee_26 : decode cX1_foresee 26 = .ok (.getfield 16, 3) := by decide +kernel
theorem dX1_foresee_29 : decode cX1_foresee 29 = .ok (.iload_n 1, 1) := by decide +kernel
theorem dX1_foresee_30 : decode cX1_foresee 30 = .ok (.invokevirtual 67, 3) := by decide +kernel
theorem dX1_foresee_33 : decode cX1_foresee 33 = .ok (.pop, 1) := by decide +kernel
theorem dX1_foresee_34 : decode cX1_foresee 34 = .ok (.aload_n 0, 1) := by decide +kernel
theorem dX1_foresee_35 : decode cX1_foresee 35 = .ok (.getfield 16, 3) := by decide +kernel
theorem dX1_foresee_38 : decode cX1_foresee 38 = .ok (.iload_n 2, 1) := by decide +kernel
theorem dX1_foresee_39 : decode cX1_foresee 39 = .ok (.invokevirtual 64, 3) := by decide +kernel
theorem dX1_foresee_42 : decode cX1_foresee 42 = .ok (.ireturn, 1) := by decide +kernel
set_option maxRecDepth 20000 in
theorem ggX1_mean_X0_wetCells : GoodIn wsX1_mean wsX0_wetCells := goodIn_r _ [7, 8, 9, 10, 11, 6, 12, 19, 20, 21, 22, 23, 24, 25, 26, 27, 28, 29, 30, 31, 32, 33] (by decide +kernel) (by decide +kernel)
set_option maxRecDepth 20000 in
theorem gX1_mean_X0_wetCells : GoodIn wsX1_mean (wsV RX1 87 RX0 yX0_wetCells wsX0_wetCells) := goodIn_app (goodIn_of _ (by decide +kernel)) ggX1_mean_X0_wetCells
set_option maxRecDepth 20000 in
theorem ggX1_mean_X0_sum : GoodIn wsX1_mean wsX0_sum := goodIn_r _ [16] (by decide +kernel) (by decide +kernel)
set_option maxRecDepth 20000 in
theorem gX1_mean_X0_sum : GoodIn wsX1_mean (wsV RX1 91 RX0 yX0_sum wsX0_sum) := goodIn_app (goodIn_of _ (by decide +kernel)) ggX1_mean_X0_sum
theorem dX1_mean_0 : decode cX1_mean 0 = .ok (.aload_n 0, 1) := by decide +kernel
theorem dX1_mean_1 : decode cX1_mean 1 = .ok (.getfield 10, 3) := by decide +kernel
theorem dX1_mean_4 : decode cX1_mean 4 = .ok (.invokevirtual 87, 3) := by decide +kernel
theorem dX1_mean_7 : decode cX1_mean 7 = .ok (.istore_n 1, 1) := by decide +kernel
theorem dX1_mean_8 : decode cX1_mean 8 = .ok (.iload_n 1, 1) := by decide +kernel
theorem dX1_mean_9 : decode cX1_mean 9 = .ok (.ifCond .ne 5, 3) := by decide +kernel
theorem dX1_mean_12 : decode cX1_mean 12 = .ok (.dconst 0, 1) := by decide +kernel
theorem dX1_mean_13 : decode cX1_mean 13 = .ok (.dreturn, 1) := by decide +kernel
theorem dX1_mean_14 : decode cX1_mean 14 = .ok (.aload_n 0, 1) := by decide +kernel
theorem dX1_mean_15 : decode cX1_mean 15 = .ok (.getfield 10, 3) := by decide +kernel
theorem dX1_mean_18 : decode cX1_mean 18 = .ok (.aload_n 0, 1) := by decide +kernel
theorem dX1_mean_19 : decode cX1_mean 19 = .ok (.getfield 10, 3) := by decide +kernel
theorem dX1_mean_22 : decode cX1_mean 22 = .ok (.getfield 31, 3) := by decide +kernel
theorem dX1_mean_25 : decode cX1_mean 25 = .ok (.invokevirtual 91, 3) := by decide +kernel
theorem dX1_mean_28 : decode cX1_mean 28 = .ok (.i2d, 1) := by decide +kernel
theorem dX1_mean_29 : decode cX1_mean 29 = .ok (.iload_n 1, 1) := by decide +kernel
theorem dX1_mean_30 : decode cX1_mean 30 = .ok (.i2d, 1) := by decide +kernel
theorem dX1_mean_31 : decode cX1_mean 31 = .ok (.ddiv, 1) := by decide +kernel
theorem dX1_mean_32 : decode cX1_mean 32 = .ok (.dreturn, 1) := by decide +kernel
set_option maxRecDepth 20000 in
theorem ggX1_placeOf_X1_requireIndex : GoodIn wsX1_placeOf wsX1_requireIndex := goodIn_ca (goodIn_r _ [4, 5, 6] (by decide +kernel) (by decide +kernel)) (goodIn_sub (fun _ h => List.mem_cons_of_mem _ (List.mem_append_right _ h)) (by decide +kernel))
set_option maxRecDepth 20000 in
theorem gX1_placeOf_X1_requireIndex : GoodIn wsX1_placeOf (va_wsS RX1 51 yX1_requireIndex wsX1_requireIndex) := goodIn_app (goodIn_of _ (by decide +kernel)) ggX1_placeOf_X1_requireIndex
theorem dX1_placeOf_0 : decode cX1_placeOf 0 = .ok (.iload_n 0, 1) := by decide +kernel
theorem dX1_placeOf_1 : decode cX1_placeOf 1 = .ok (.iconst 0, 1) := by decide +kernel
theorem dX1_placeOf_2 : decode cX1_placeOf 2 = .ok (.bipush 7, 2) := by decide +kernel
theorem dX1_placeOf_4 : decode cX1_placeOf 4 = .ok (.invokestatic 51, 3) := by decide +kernel
theorem dX1_placeOf_7 : decode cX1_placeOf 7 = .ok (.iload_n 1, 1) := by decide +kernel
theorem dX1_placeOf_8 : decode cX1_placeOf 8 = .ok (.iconst 0, 1) := by decide +kernel
theorem dX1_placeOf_9 : decode cX1_placeOf 9 = .ok (.bipush 7, 2) := by decide +kernel
theorem dX1_placeOf_11 : decode cX1_placeOf 11 = .ok (.invokestatic 51, 3) := by decide +kernel
theorem dX1_placeOf_14 : decode cX1_placeOf 14 = .ok (.bipush 8, 2) := by decide +kernel
theorem dX1_placeOf_16 : decode cX1_placeOf 16 = .ok (.iload_n 1, 1) := by decide +kernel
theorem dX1_placeOf_17 : decode cX1_placeOf 17 = .ok (.imul, 1) := by decide +kernel
theorem dX1_placeOf_18 : decode cX1_placeOf 18 = .ok (.iload_n 0, 1) := by decide +kernel
theorem dX1_placeOf_19 : decode cX1_placeOf 19 = .ok (.iadd, 1) := by decide +kernel
theorem dX1_placeOf_20 : decode cX1_placeOf 20 = .ok (.ireturn, 1) := by decide +kernel
theorem dX1_requireIndex_0 : decode cX1_requireIndex 0 = .ok (.iload_n 0, 1) := by decide +kernel
theorem dX1_requireIndex_1 : decode cX1_requireIndex 1 = .ok (.iload_n 1, 1) := by decide +kernel
theorem dX1_requireIndex_2 : decode cX1_requireIndex 2 = .ok (.if_icmp .lt 8, 3) := by decide +kernel
theorem dX1_requireIndex_5 : decode cX1_requireIndex 5 = .ok (.iload_n 0, 1) := by decide +kernel
theorem dX1_requireIndex_6 : decode cX1_requireIndex 6 = .ok (.iload_n 2, 1) := by decide +kernel
theorem dX1_requireIndex_7 : decode cX1_requireIndex 7 = .ok (.if_icmp .le 13, 3) := by decide +kernel
theorem dX1_requireIndex_10 : decode cX1_requireIndex 10 = .ok (.new 99, 3) := by decide +kernel
theorem dX1_requireIndex_13 : decode cX1_requireIndex 13 = .ok (.dup, 1) := by decide +kernel
theorem dX1_requireIndex_14 : decode cX1_requireIndex 14 = .ok (.ldc 101, 2) := by decide +kernel
theorem dX1_requireIndex_16 : decode cX1_requireIndex 16 = .ok (.invokespecial 103, 3) := by decide +kernel
theorem dX1_requireIndex_19 : decode cX1_requireIndex 19 = .ok (.athrow, 1) := by decide +kernel
theorem dX1_requireIndex_20 : decode cX1_requireIndex 20 = .ok (.return_, 1) := by decide +kernel
theorem dX1_requireWithin_0 : decode cX1_requireWithin 0 = .ok (.iload_n 0, 1) := by decide +kernel
theorem dX1_requireWithin_1 : decode cX1_requireWithin 1 = .ok (.iload_n 1, 1) := by decide +kernel
theorem dX1_requireWithin_2 : decode cX1_requireWithin 2 = .ok (.if_icmp .lt 8, 3) := by decide +kernel
theorem dX1_requireWithin_5 : decode cX1_requireWithin 5 = .ok (.iload_n 0, 1) := by decide +kernel
theorem dX1_requireWithin_6 : decode cX1_requireWithin 6 = .ok (.iload_n 2, 1) := by decide +kernel
theorem dX1_requireWithin_7 : decode cX1_requireWithin 7 = .ok (.if_icmp .le 13, 3) := by decide +kernel
theorem dX1_requireWithin_10 : decode cX1_requireWithin 10 = .ok (.new 106, 3) := by decide +kernel
theorem dX1_requireWithin_13 : decode cX1_requireWithin 13 = .ok (.dup, 1) := by decide +kernel
theorem dX1_requireWithin_14 : decode cX1_requireWithin 14 = .ok (.ldc 108, 2) := by decide +kernel
theorem dX1_requireWithin_16 : decode cX1_requireWithin 16 = .ok (.invokespecial 110, 3) := by decide +kernel
theorem dX1_requireWithin_19 : decode cX1_requireWithin 19 = .ok (.athrow, 1) := by decide +kernel
theorem dX1_requireWithin_20 : decode cX1_requireWithin 20 = .ok (.return_, 1) := by decide +kernel
end
section
abbrev rm_X1_requireIndex : Room := { frames := 6, cells := 1, slots := 6, locals := 90 }
set_option maxHeartbeats 4000000 in
set_option maxRecDepth 100000 in
theorem c_reqI (l : Launch) (hst : l.stackTraces = false) (D : va_G) (cI : ClassId) (sa1 sa2 : Nat) (nu le mo : Int32) : cx_v (S := Unit) l D yX1_requireIndex wsX1_requireIndex rm_X1_requireIndex [.int nu, .int le, .int mo] [] [(cI, .int)] sa1 sa2 (fun _ => le ≤ nu ∧ nu ≤ mo) (fun _ => []) (fun E => E = "java/lang/IndexOutOfBoundsException" ∧ ¬ (le ≤ nu ∧ nu ≤ mo)) := by
  intro sz
  refine vx_ofW (cc := cX1_requireIndex) (maxL := 3) (ret := none) (by decide) rfl ?_
  intro p e s m args below meth c s₁ B hml htab hv
  obtain ⟨rfl, hsz, hP, hK, hD0, hT⟩ := hv
  subst hsz
  have hD := hD0.self (sz := s.heap.size)
  have hl := lv_entry [.int nu, .int le, .int mo] (n := 3) (Nat.le_of_ble_eq_true rfl)
  rw [lg_entry_eq]
  have hx := B.exec
  have hb := B.bytes
  have hr := B.returns
  have hlocks := B.notSynchronized
  have hts := atoms_spec (ws := wsX1_requireIndex) B.pre
  have hown : s.vm.findClass RX1 = some m.cls := findClass_of_methodNamed B.named
  generalize (lg_sl [.int nu, .int le, .int mo] ++ List.replicate (3 - (lg_sl [.int nu, .int le, .int mo]).length) Slot.unset).toArray = ls at hl ⊢
  have hl : lv_has ls 3 [(0, .int nu), (1, .int le), (2, .int mo)] := hl
  have hS : va_S (va_A [] s.heap.size) s.heap s.heap [] := va_S.rf
  have thr : ¬ (le ≤ nu ∧ nu ≤ mo) → W p l e (headSpec wsX1_requireIndex rm_X1_requireIndex).room s m #[.int nu, .int le, .int mo] below meth c s.heap [] 0 0 (vx_MQ below (ct_Qv D [(cI, .int)] (fun _ : Unit => le ≤ nu ∧ nu ≤ mo) (fun _ => []) (va_A [] s.heap.size)) (cx_X D [(cI, .int)] [] (fun E => E = "java/lang/IndexOutOfBoundsException" ∧ ¬ (le ≤ nu ∧ nu ≤ mo)) (va_A [] s.heap.size)) #[.int nu, .int le, .int mo] s rm_X1_requireIndex.cells rm_X1_requireIndex.slots (va_A [] s.heap.size)) (F0 m 10 ls []) := by
    intro hno
    have hat : ∀ w ∈ vx_atS RX1 103 "java/lang/IndexOutOfBoundsException" ["java/lang/RuntimeException", "java/lang/Exception"], w.before #[.int nu, .int le, .int mo] s = true :=
      vx_hat (fun w hw => hts w (List.mem_cons_of_mem _ (List.mem_append_right _ hw))) (B := [.declares (Bundle.initS "java/lang/RuntimeException"), .declares (Bundle.initS "java/lang/Exception"), .declares (Bundle.initS "java/lang/Throwable"), .castable "java/lang/IndexOutOfBoundsException" "java/lang/IndexOutOfBoundsException"]) (by decide +kernel) (vx_c (va_Nw.use rfl hT.1.2.2.2.2.1) (vx_c (va_Nw.use rfl hT.1.2.2.2.2.2.1) (vx_c (va_Nw.use rfl hT.1.2.2.2.2.2.2.1) (vx_c (va_Nw.use rfl hT.1.2.2.1) vx_n))))
    refine vx_throwS (own := RX1) (cls := "java/lang/IndexOutOfBoundsException") (text := "no such cell, hour or number") (names := ["java/lang/RuntimeException", "java/lang/Exception"]) (ik := 99) (is := 101) (ic := 103) hx hb hst hown (by decide +kernel) (by decide +kernel) (hts (.classLink RX1 99 "java/lang/IndexOutOfBoundsException") (List.mem_of_getElem? (i := 1) rfl)) (hts (.initialized "java/lang/IndexOutOfBoundsException") (List.mem_of_getElem? (i := 2) rfl)) hT.1.1 hat (by decide +kernel) hT.2.1 hT.2.2 hS (by rw [hml]; exact hl.1) dX1_requireIndex_10 dX1_requireIndex_13 dX1_requireIndex_14 dX1_requireIndex_16 dX1_requireIndex_19 (fun z hz => (htab z hz).elim) (Nat.lt_of_succ_le (Nat.le_of_ble_eq_true rfl)) (Nat.le_of_ble_eq_true rfl) (Nat.le_of_ble_eq_true rfl) (Nat.le_of_ble_eq_true rfl) hlocks ?_ (fun z hz => absurd hz List.not_mem_nil) (Nat.le_of_ble_eq_true rfl) (Nat.le_of_ble_eq_true rfl)
    intro t hvm hsz hk
    exact ⟨(), trivial, ⟨⟨rfl, hno⟩, fun k q h => by simp at h, va_K.moved hvm hK, ⟨fun i j p q h => by simp at h, fun k q h => by simp at h⟩⟩, hsz, fun q h1 _ => hk q h1⟩
  refine lv_iload_n hx hb dX1_requireIndex_0 rfl (lv_at hl 0 rfl) ?_
  refine lv_iload_n hx hb dX1_requireIndex_1 rfl (lv_at hl 1 rfl) ?_
  refine lv_icmp_lt (tgt := 10) hx hb dX1_requireIndex_2 (by decide) (fun hc => ?_) (fun hc => ?_)
  · exact thr (fun z => absurd z.1 (Int32.not_le.mpr hc))
  · refine lv_iload_n hx hb dX1_requireIndex_5 rfl (lv_at hl 0 rfl) ?_
    refine lv_iload_n hx hb dX1_requireIndex_6 rfl (lv_at hl 2 rfl) ?_
    refine lv_icmp_le (tgt := 20) hx hb dX1_requireIndex_7 (by decide) (fun hc2 => ?_) (fun hc2 => ?_)
    · refine vx_ret (W.widen (Nat.le_of_ble_eq_true rfl) (Nat.le_of_ble_eq_true rfl) (W.vret hx hb hr (fun t ht hW => ⟨⟨(), rfl, ⟨Int32.not_lt.mp hc, hc2⟩, fun k q h => by simp at h, va_K.moved hW.alike hK, ⟨fun i j p q h => by simp at h, fun k q h => by simp at h⟩⟩, hS.F ht⟩) hS.2.2 dX1_requireIndex_20 hlocks))
    · exact thr (fun z => absurd z.2 hc2)
abbrev rm_X1_requireWithin : Room := { frames := 6, cells := 1, slots := 6, locals := 90 }
set_option maxHeartbeats 4000000 in
set_option maxRecDepth 100000 in
theorem c_reqW (l : Launch) (hst : l.stackTraces = false) (D : va_G) (cI : ClassId) (sa1 sa2 : Nat) (nu le mo : Int32) : cx_v (S := Unit) l D yX1_requireWithin wsX1_requireWithin rm_X1_requireWithin [.int nu, .int le, .int mo] [] [(cI, .int)] sa1 sa2 (fun _ => le ≤ nu ∧ nu ≤ mo) (fun _ => []) (fun E => E = "java/lang/IllegalArgumentException" ∧ ¬ (le ≤ nu ∧ nu ≤ mo)) := by
  intro sz
  refine vx_ofW (cc := cX1_requireWithin) (maxL := 3) (ret := none) (by decide) rfl ?_
  intro p e s m args below meth c s₁ B hml htab hv
  obtain ⟨rfl, hsz, hP, hK, hD0, hT⟩ := hv
  subst hsz
  have hD := hD0.self (sz := s.heap.size)
  have hl := lv_entry [.int nu, .int le, .int mo] (n := 3) (Nat.le_of_ble_eq_true rfl)
  rw [lg_entry_eq]
  have hx := B.exec
  have hb := B.bytes
  have hr := B.returns
  have hlocks := B.notSynchronized
  have hts := atoms_spec (ws := wsX1_requireWithin) B.pre
  have hown : s.vm.findClass RX1 = some m.cls := findClass_of_methodNamed B.named
  generalize (lg_sl [.int nu, .int le, .int mo] ++ List.replicate (3 - (lg_sl [.int nu, .int le, .int mo]).length) Slot.unset).toArray = ls at hl ⊢
  have hl : lv_has ls 3 [(0, .int nu), (1, .int le), (2, .int mo)] := hl
  have hS : va_S (va_A [] s.heap.size) s.heap s.heap [] := va_S.rf
  have thr : ¬ (le ≤ nu ∧ nu ≤ mo) → W p l e (headSpec wsX1_requireWithin rm_X1_requireWithin).room s m #[.int nu, .int le, .int mo] below meth c s.heap [] 0 0 (vx_MQ below (ct_Qv D [(cI, .int)] (fun _ : Unit => le ≤ nu ∧ nu ≤ mo) (fun _ => []) (va_A [] s.heap.size)) (cx_X D [(cI, .int)] [] (fun E => E = "java/lang/IllegalArgumentException" ∧ ¬ (le ≤ nu ∧ nu ≤ mo)) (va_A [] s.heap.size)) #[.int nu, .int le, .int mo] s rm_X1_requireWithin.cells rm_X1_requireWithin.slots (va_A [] s.heap.size)) (F0 m 10 ls []) := by
    intro hno
    have hat : ∀ w ∈ vx_atS RX1 110 "java/lang/IllegalArgumentException" ["java/lang/RuntimeException", "java/lang/Exception"], w.before #[.int nu, .int le, .int mo] s = true :=
      vx_hat (fun w hw => hts w (List.mem_cons_of_mem _ (List.mem_append_right _ hw))) (B := [.declares (Bundle.initS "java/lang/RuntimeException"), .declares (Bundle.initS "java/lang/Exception"), .declares (Bundle.initS "java/lang/Throwable"), .castable "java/lang/IllegalArgumentException" "java/lang/IllegalArgumentException"]) (by decide +kernel) (vx_c (va_Nw.use rfl hT.1.2.2.2.2.1) (vx_c (va_Nw.use rfl hT.1.2.2.2.2.2.1) (vx_c (va_Nw.use rfl hT.1.2.2.2.2.2.2.1) (vx_c (va_Nw.use rfl hT.1.2.2.2.1) vx_n))))
    refine vx_throwS (own := RX1) (cls := "java/lang/IllegalArgumentException") (text := "a number out of its bounds") (names := ["java/lang/RuntimeException", "java/lang/Exception"]) (ik := 106) (is := 108) (ic := 110) hx hb hst hown (by decide +kernel) (by decide +kernel) (hts (.classLink RX1 106 "java/lang/IllegalArgumentException") (List.mem_of_getElem? (i := 1) rfl)) (hts (.initialized "java/lang/IllegalArgumentException") (List.mem_of_getElem? (i := 2) rfl)) hT.1.2.1 hat (by decide +kernel) hT.2.1 hT.2.2 hS (by rw [hml]; exact hl.1) dX1_requireWithin_10 dX1_requireWithin_13 dX1_requireWithin_14 dX1_requireWithin_16 dX1_requireWithin_19 (fun z hz => (htab z hz).elim) (Nat.lt_of_succ_le (Nat.le_of_ble_eq_true rfl)) (Nat.le_of_ble_eq_true rfl) (Nat.le_of_ble_eq_true rfl) (Nat.le_of_ble_eq_true rfl) hlocks ?_ (fun z hz => absurd hz List.not_mem_nil) (Nat.le_of_ble_eq_true rfl) (Nat.le_of_ble_eq_true rfl)
    intro t hvm hsz hk
    exact ⟨(), trivial, ⟨⟨rfl, hno⟩, fun k q h => by simp at h, va_K.moved hvm hK, ⟨fun i j p q h => by simp at h, fun k q h => by simp at h⟩⟩, hsz, fun q h1 _ => hk q h1⟩
  refine lv_iload_n hx hb dX1_requireWithin_0 rfl (lv_at hl 0 rfl) ?_
  refine lv_iload_n hx hb dX1_requireWithin_1 rfl (lv_at hl 1 rfl) ?_
  refine lv_icmp_lt (tgt := 10) hx hb dX1_requireWithin_2 (by decide) (fun hc => ?_) (fun hc => ?_)
  · exact thr (fun z => absurd z.1 (Int32.not_le.mpr hc))
  · refine lv_iload_n hx hb dX1_requireWithin_5 rfl (lv_at hl 0 rfl) ?_
    refine lv_iload_n hx hb dX1_requireWithin_6 rfl (lv_at hl 2 rfl) ?_
    refine lv_icmp_le (tgt := 20) hx hb dX1_requireWithin_7 (by decide) (fun hc2 => ?_) (fun hc2 => ?_)
    · refine vx_ret (W.widen (Nat.le_of_ble_eq_true rfl) (Nat.le_of_ble_eq_true rfl) (W.vret hx hb hr (fun t ht hW => ⟨⟨(), rfl, ⟨Int32.not_lt.mp hc, hc2⟩, fun k q h => by simp at h, va_K.moved hW.alike hK, ⟨fun i j p q h => by simp at h, fun k q h => by simp at h⟩⟩, hS.F ht⟩) hS.2.2 dX1_requireWithin_20 hlocks))
    · exact thr (fun z => absurd z.2 hc2)
end
section
/-! a cell by x and y, what may be, and what would be -/
def inC (x y : Int32) : Prop := (0 ≤ x ∧ x ≤ 7) ∧ (0 ≤ y ∧ y ≤ 7)
def q_at (x y : Int32) : Nat := 8 * y.toNatClampNeg + x.toNatClampNeg
theorem q_n7 {x : Int32} (h0 : 0 ≤ x) {M : Int32} {n : Nat} (hM : M = nI n) (hn : n < 2 ^ 31) (h7 : x ≤ M) : x = nI x.toNatClampNeg ∧ x.toNatClampNeg ≤ n := by
  obtain ⟨j, hj, rfl⟩ := nI_of (Int32.not_lt.mpr h0)
  rw [nI_clamp hj]
  rw [hM] at h7
  exact ⟨rfl, (nI_leI hj hn).mp h7⟩
theorem q_at_lt {x y : Int32} (h : inC x y) : q_at x y < 64 := by
  have h1 := (q_n7 h.1.1 (n := 7) rfl (by decide) h.1.2).2
  have h2 := (q_n7 h.2.1 (n := 7) rfl (by decide) h.2.2).2
  unfold q_at
  omega
theorem q_at_eq {x y : Int32} (h : inC x y) : (8 : Int32) * y + x = nI (q_at x y) := by
  have h1 := (q_n7 h.1.1 (n := 7) rfl (by decide) h.1.2).1
  have h2 := (q_n7 h.2.1 (n := 7) rfl (by decide) h.2.2).1
  have e : (8 : Int32) * y + x = nI 8 * nI y.toNatClampNeg + nI x.toNatClampNeg := by rw [← h1, ← h2]; rfl
  rw [e, pk_mul, nI_add]
  rfl
/-- the first hour behind which it is so: -1 if not by then -/
def q_seek (hei dra rai : Nat → Int32) (test : Ms → Prop) [DecidablePred test] (σ : Ms) : Nat → Nat → Int32
  | 0, _ => -1
  | f + 1, n => if test (q_hours hei dra rai n σ) then nI n else q_seek hei dra rai test σ f (n + 1)
abbrev q_wet3 (k : Nat) (σ : Ms) : Prop := 3 ≤ m_wat σ k
abbrev q_noDam (k : Nat) (σ : Ms) : Prop := m_dam σ k = 0
def q_floods (hei dra rai : Nat → Int32) (σ : Ms) (k : Nat) : Int32 := q_seek hei dra rai (q_wet3 k) σ 49 0
def q_breaks (hei dra rai : Nat → Int32) (σ : Ms) (k : Nat) : Int32 := if m_dam σ k = 0 then -1 else q_seek hei dra rai (q_noDam k) σ 48 1
theorem q_seek_yes {hei dra rai : Nat → Int32} {test : Ms → Prop} [DecidablePred test] {σ : Ms} {f n : Nat} (h : test (q_hours hei dra rai n σ)) : q_seek hei dra rai test σ (f + 1) n = nI n := by
  simp only [q_seek]; rw [if_pos h]
theorem q_seek_no {hei dra rai : Nat → Int32} {test : Ms → Prop} [DecidablePred test] {σ : Ms} {f n : Nat} (h : ¬ test (q_hours hei dra rai n σ)) : q_seek hei dra rai test σ (f + 1) n = q_seek hei dra rai test σ f (n + 1) := by
  rw [show q_seek hei dra rai test σ (f + 1) n = if test (q_hours hei dra rai n σ) then nI n else q_seek hei dra rai test σ f (n + 1) from rfl, if_neg h]
/-- a dam set, without wear -/
def q_with (σ : Ms) (k : Nat) (d : Int32) : Ms := (m_wat σ, upd (m_dam σ) k d, upd (m_wea σ) k 0, m_peo σ, m_t σ, m_bro σ, m_drd σ, m_lef σ)
def q_leave (hei dra rai : Nat → Int32) (n : Nat) (σ : Ms) : Int32 := m_lef (q_hours hei dra rai n σ) - m_lef σ
def q_holdS (hei dra rai : Nat → Int32) (n : Nat) (σ : Ms) : Nat → Int32 × Int32
  | 0 => (q_leave hei dra rai n σ, -1)
  | i + 1 => if 0 < m_dam σ i then (if (q_holdS hei dra rai n σ i).1 < q_leave hei dra rai n (q_with σ i 0) then (q_leave hei dra rai n (q_with σ i 0), nI i) else q_holdS hei dra rai n σ i) else q_holdS hei dra rai n σ i
def q_advS (hei dra rai : Nat → Int32) (n : Nat) (σ : Ms) : Nat → Int32 × Int32
  | 0 => (q_leave hei dra rai n σ, -1)
  | i + 1 => if q_leave hei dra rai n (q_with σ i (i_min 20 (m_dam σ i + 5))) < (q_advS hei dra rai n σ i).1 then (q_leave hei dra rai n (q_with σ i (i_min 20 (m_dam σ i + 5))), nI i) else q_advS hei dra rai n σ i
def q_holds (hei dra rai : Nat → Int32) (n : Nat) (σ : Ms) : Int32 := (q_holdS hei dra rai n σ 64).2
def q_advise (hei dra rai : Nat → Int32) (n : Nat) (σ : Ms) : Int32 := (q_advS hei dra rai n σ 64).2
theorem q_holdS_up (hei dra rai : Nat → Int32) (n : Nat) (σ : Ms) (i : Nat) : q_holdS hei dra rai n σ (i + 1) = if 0 < m_dam σ i then (if (q_holdS hei dra rai n σ i).1 < q_leave hei dra rai n (q_with σ i 0) then (q_leave hei dra rai n (q_with σ i 0), nI i) else q_holdS hei dra rai n σ i) else q_holdS hei dra rai n σ i := rfl
theorem q_advS_up (hei dra rai : Nat → Int32) (n : Nat) (σ : Ms) (i : Nat) : q_advS hei dra rai n σ (i + 1) = if q_leave hei dra rai n (q_with σ i (i_min 20 (m_dam σ i + 5))) < (q_advS hei dra rai n σ i).1 then (q_leave hei dra rai n (q_with σ i (i_min 20 (m_dam σ i + 5))), nI i) else q_advS hei dra rai n σ i := rfl
theorem q_holds_eq (hei dra rai : Nat → Int32) (n : Nat) (σ : Ms) : (q_holdS hei dra rai n σ 64).2 = q_holds hei dra rai n σ := by unfold q_holds; exact Eq.refl _
theorem q_advise_eq (hei dra rai : Nat → Int32) (n : Nat) (σ : Ms) : (q_advS hei dra rai n σ 64).2 = q_advise hei dra rai n σ := by unfold q_advise; exact Eq.refl _
/-- the checksum -/
def q_digT (σ : Ms) : Nat → Int64
  | 0 => 1129
  | i + 1 => q_digT σ i * 31 + (q_tally σ i).toInt64
def q_digW (hei dra : Nat → Int32) (σ : Ms) (c : Nat) (d : Int64) : Nat → Int64
  | 0 => d
  | i + 1 => q_digW hei dra σ c d i * 31 + (q_cell hei (m_wat σ) (m_dam σ) (m_wea σ) dra (m_peo σ) c i).toInt64
def q_digC (hei dra : Nat → Int32) (σ : Ms) (d : Int64) : Nat → Int64
  | 0 => d
  | c + 1 => q_digW hei dra σ c (q_digC hei dra σ d c) 8
def q_digR (rai : Nat → Int32) (d : Int64) : Nat → Int64
  | 0 => d
  | i + 1 => q_digR rai d i * 31 + (rai i).toInt64
def q_dig (hei dra rai : Nat → Int32) (σ : Ms) : Int64 := q_digR rai (q_digC hei dra σ (q_digT σ 9) 64) 12
theorem q_dig_eq (hei dra rai : Nat → Int32) (σ : Ms) : q_digR rai (q_digC hei dra σ (q_digT σ 9) 64) 12 = q_dig hei dra rai σ := by unfold q_dig; exact Eq.refl _
/-! a plain of which nothing is known but that it is one -/
def q_z (hei wat dam wea dra peo rai : Nat → Int32) (hou bro drd lef : Int32) (cre gai see fou : Nat → Int32) : Nat → Nat → Int32
  | 0 => hei
  | 1 => wat
  | 2 => dam
  | 3 => wea
  | 4 => dra
  | 5 => peo
  | 6 => rai
  | 7 => fun _ => hou
  | 8 => fun _ => bro
  | 9 => fun _ => drd
  | 10 => fun _ => lef
  | 11 => cre
  | 12 => gai
  | 13 => see
  | _ => fou
abbrev pZ (h : Nat) (ad : Nat → Nat) (cI : ClassId) (z : Nat → Nat → Int32) : va_W := pW h ad cI (z 0) (z 1) (z 2) (z 3) (z 4) (z 5) (z 6) (z 7 0) (z 8 0) (z 9 0) (z 10 0) (z 11) (z 12) (z 13) (z 14)
/-- FloodGrid's twenty-five cells: its own, the plain now, and the plain ahead -/
abbrev fW (g hn ha : Nat) (adn ada : Nat → Nat) (cI : ClassId) (hei dra rai : Nat → Int32) (σ : Ms) (cre gai see fou : Nat → Int32) (z : Nat → Nat → Int32) : va_W := gW g hn ha ++ (pM hn adn cI hei dra rai σ cre gai see fou ++ pZ ha ada cI z)
end
section
abbrev rm_X1_placeOf : Room := { frames := 7, cells := 2, slots := 12, locals := 112 }
set_option maxHeartbeats 4000000 in
set_option maxRecDepth 100000 in
theorem c_place (l : Launch) (hst : l.stackTraces = false) (D : va_G) (cI : ClassId) (sa1 sa2 : Nat) (x y : Int32) : cx_i (S := Unit) l D yX1_placeOf wsX1_placeOf rm_X1_placeOf [.int x, .int y] ([] : va_W) [(cI, .int)] sa1 sa2 (fun r (_ : Unit) => inC x y ∧ r = nI (q_at x y)) (fun _ => []) (fun E => E = "java/lang/IndexOutOfBoundsException" ∧ ¬ inC x y) := by
  refine cx_ofi (cc := cX1_placeOf) (maxL := 2) (by decide) rfl (Nat.le_of_ble_eq_true rfl) ?_
  intro p e s m args below meth c A Q hx hb hml hown hts hA hK hT H locs hP hD hS fin finx ls hl
  have hown : s.vm.findClass RX1 = some m.cls := hown
  have hl : lv_has ls 2 [(0, .int x), (1, .int y)] := hl
  refine lv_iload_n hx hb dX1_placeOf_0 rfl (lv_at hl 0 rfl) ?_
  refine lv_iconst (v := 0) hx hb dX1_placeOf_1 (by decide) ?_
  refine lv_bipush (v := 7) hx hb dX1_placeOf_2 (by decide) ?_
  refine cx_Sv (As := [.int x, .int 0, .int 7]) (rest := []) (wr := []) (W1 := fun u => ([] : va_W)) (cells1 := 1) (slots1 := 6) ⟨hx, hb, hml, hown, hts⟩ (c_reqI l hst D cI sa1 sa2 x 0 7) (va_cwS 3 hts gX1_placeOf_X1_requireIndex rfl rfl rfl (by decide +kernel) ⟨Nat.le_of_ble_eq_true rfl, Nat.le_of_ble_eq_true rfl⟩) hK hP hD hS hA hT [] [] ⟨rfl, rfl, rfl, rfl, rfl⟩ [] rfl (fun _ => rfl) [] rfl rfl [0] rfl rfl hl.1 rfl (Nat.le_of_ble_eq_true rfl) rfl rfl ⟨Nat.le_of_ble_eq_true rfl, Nat.le_of_ble_eq_true rfl⟩ dX1_placeOf_4 (fun E ce q9 H locs hex hP hD hS hce hcv hcl => finx E ce q9 H locs 1 6 4 ls _ (⟨hex.1, fun z => hex.2 z.1⟩) hP hD hS hce hcv hcl (Nat.le_of_ble_eq_true rfl) (Nat.le_of_ble_eq_true rfl)) (fun u H locs hw hP hD hS => ?_)
  have h1 := hw
  refine lv_iload_n hx hb dX1_placeOf_7 rfl (lv_at hl 1 rfl) ?_
  refine lv_iconst (v := 0) hx hb dX1_placeOf_8 (by decide) ?_
  refine lv_bipush (v := 7) hx hb dX1_placeOf_9 (by decide) ?_
  refine cx_Sv (As := [.int y, .int 0, .int 7]) (rest := []) (wr := []) (W1 := fun u => ([] : va_W)) (cells1 := 2) (slots1 := 12) ⟨hx, hb, hml, hown, hts⟩ (c_reqI l hst D cI sa1 sa2 y 0 7) (va_cwS 3 hts gX1_placeOf_X1_requireIndex rfl rfl rfl (by decide +kernel) ⟨Nat.le_of_ble_eq_true rfl, Nat.le_of_ble_eq_true rfl⟩) hK hP hD hS hA hT [] [] ⟨rfl, rfl, rfl, rfl, rfl⟩ [] rfl (fun _ => rfl) [] rfl rfl [0] rfl rfl hl.1 rfl (Nat.le_of_ble_eq_true rfl) rfl rfl ⟨Nat.le_of_ble_eq_true rfl, Nat.le_of_ble_eq_true rfl⟩ dX1_placeOf_11 (fun E ce q9 H locs hex hP hD hS hce hcv hcl => finx E ce q9 H locs 2 12 11 ls _ (⟨hex.1, fun z => hex.2 z.2⟩) hP hD hS hce hcv hcl (Nat.le_of_ble_eq_true rfl) (Nat.le_of_ble_eq_true rfl)) (fun u H locs hw hP hD hS => ?_)
  have h2 := hw
  refine lv_bipush (v := 8) hx hb dX1_placeOf_14 (by decide) ?_
  refine lv_iload_n hx hb dX1_placeOf_16 rfl (lv_at hl 1 rfl) ?_
  refine lv_imul hx hb dX1_placeOf_17 ?_
  refine lv_iload_n hx hb dX1_placeOf_18 rfl (lv_at hl 0 rfl) ?_
  refine lv_iadd hx hb dX1_placeOf_19 ?_
  have hin : inC x y := ⟨h1, h2⟩
  exact fin ((8 * y) + x) () H locs 2 12 20 ls dX1_placeOf_20 ⟨hin, q_at_eq hin⟩ hP hD hS (Nat.le_of_ble_eq_true rfl) (Nat.le_of_ble_eq_true rfl)
abbrev rm_X1_raise : Room := { frames := 8, cells := 3, slots := 18, locals := 133 }
set_option maxHeartbeats 4000000 in
set_option maxRecDepth 100000 in
theorem c_X1_raise (l : Launch) (hst : l.stackTraces = false) (D : va_G) (cI : ClassId) (sa1 sa2 : Nat) (g hn ha : Nat) (adn ada : Nat → Nat) (hei dra rai : Nat → Int32) (σ : Ms) (cre gai see fou : Nat → Int32) (z : Nat → Nat → Int32) (x y v : Int32) : cx_i (S := Unit) l D yX1_raise wsX1_raise rm_X1_raise [.ref g, .int x, .int y, .int v] ((gW g hn ha) ++ ((pM hn adn cI hei dra rai σ cre gai see fou) ++ ((pZ ha ada cI z)))) [(cI, .int)] sa1 sa2 (fun r (_ : Unit) => inC x y ∧ (0 ≤ v ∧ v ≤ 50) ∧ r = hei (q_at x y)) (fun _ => (fW g hn ha adn ada cI (upd hei (q_at x y) v) dra rai σ cre gai see fou z)) (fun E => (E = "java/lang/IndexOutOfBoundsException" ∧ ¬ inC x y) ∨ (E = "java/lang/IllegalArgumentException" ∧ inC x y ∧ ¬ (0 ≤ v ∧ v ≤ 50))) := by
  refine cx_ofi (cc := cX1_raise) (maxL := 6) (by decide) rfl (Nat.le_of_ble_eq_true rfl) ?_
  intro p e s m args below meth c A Q hx hb hml hown hts hA hK hT H locs hP hD hS fin finx ls hl
  have hown : s.vm.findClass RX1 = some m.cls := hown
  have hl : lv_has ls 6 [(0, .ref g), (1, .int x), (2, .int y), (3, .int v)] := hl
  refine lv_iload_n hx hb dX1_raise_0 rfl (lv_at hl 1 rfl) ?_
  refine lv_iload_n hx hb dX1_raise_1 rfl (lv_at hl 2 rfl) ?_
  refine cx_Si (As := [.int x, .int y]) (rest := []) (wr := [(g, .inr (1, [.ref hn, .ref ha])), (hn, .inr (0, [.ref (adn 0), .ref (adn 1), .ref (adn 2), .ref (adn 3), .ref (adn 4), .ref (adn 5), .ref (adn 6), .int (nI (m_t σ)), .int (m_bro σ), .int (m_drd σ), .int (m_lef σ), .ref (adn 11), .ref (adn 12), .ref (adn 13), .ref (adn 14)])), ((adn 0), .inl (cI, 64, .inl hei)), ((adn 1), .inl (cI, 64, .inl (m_wat σ))), ((adn 2), .inl (cI, 64, .inl (m_dam σ))), ((adn 3), .inl (cI, 64, .inl (m_wea σ))), ((adn 4), .inl (cI, 64, .inl dra)), ((adn 5), .inl (cI, 64, .inl (m_peo σ))), ((adn 6), .inl (cI, 12, .inl rai)), ((adn 11), .inl (cI, 64, .inl cre)), ((adn 12), .inl (cI, 64, .inl gai)), ((adn 13), .inl (cI, 64, .inl see)), ((adn 14), .inl (cI, 64, .inl fou)), (ha, .inr (0, [.ref (ada 0), .ref (ada 1), .ref (ada 2), .ref (ada 3), .ref (ada 4), .ref (ada 5), .ref (ada 6), .int (z 7 0), .int (z 8 0), .int (z 9 0), .int (z 10 0), .ref (ada 11), .ref (ada 12), .ref (ada 13), .ref (ada 14)])), ((ada 0), .inl (cI, 64, .inl (z 0))), ((ada 1), .inl (cI, 64, .inl (z 1))), ((ada 2), .inl (cI, 64, .inl (z 2))), ((ada 3), .inl (cI, 64, .inl (z 3))), ((ada 4), .inl (cI, 64, .inl (z 4))), ((ada 5), .inl (cI, 64, .inl (z 5))), ((ada 6), .inl (cI, 12, .inl (z 6))), ((ada 11), .inl (cI, 64, .inl (z 11))), ((ada 12), .inl (cI, 64, .inl (z 12))), ((ada 13), .inl (cI, 64, .inl (z 13))), ((ada 14), .inl (cI, 64, .inl (z 14)))]) (W1 := fun u => ((gW g hn ha) ++ ((pM hn adn cI hei dra rai σ cre gai see fou) ++ ((pZ ha ada cI z))))) (cells1 := 2) (slots1 := 12) ⟨hx, hb, hml, hown, hts⟩ (c_place l hst D cI sa1 sa2 x y) (va_cwS 2 hts gX1_raise_X1_placeOf rfl rfl rfl (by decide +kernel) ⟨Nat.le_of_ble_eq_true rfl, Nat.le_of_ble_eq_true rfl⟩) hK hP hD hS hA hT [] [0, 1, 2, 3, 4, 5, 6, 7, 8, 9, 10, 11, 12, 13, 14, 15, 16, 17, 18, 19, 20, 21, 22, 23, 24] ⟨rfl, rfl, rfl, rfl, rfl⟩ [0, 1, 2, 3, 4, 5, 6, 7, 8, 9, 10, 11, 12, 13, 14, 15, 16, 17, 18, 19, 20, 21, 22, 23, 24] rfl (fun _ => rfl) [0, 1, 2, 3, 4, 5, 6, 7, 8, 9, 10, 11, 12, 13, 14, 15, 16, 17, 18, 19, 20, 21, 22, 23, 24] rfl rfl [0] rfl rfl hl.1 rfl (Nat.le_of_ble_eq_true rfl) rfl rfl ⟨Nat.le_of_ble_eq_true rfl, Nat.le_of_ble_eq_true rfl⟩ dX1_raise_2 (fun E ce q9 H locs hex hP hD hS hce hcv hcl => finx E ce q9 H locs 2 12 2 ls _ (Or.inl hex) hP hD hS hce hcv hcl (Nat.le_of_ble_eq_true rfl) (Nat.le_of_ble_eq_true rfl)) (fun r u H locs hw hP hD hS => ?_)
  obtain ⟨hin, rfl⟩ := hw
  have hat := q_at_lt hin
  refine lv_istore (lv' := [(4, .int (nI (q_at x y))), (0, .ref g), (1, .int x), (2, .int y), (3, .int v)]) hx hb dX1_raise_5 hl (by decide) rfl (fun ls hl => ?_)
  refine lv_iload_n hx hb dX1_raise_7 rfl (lv_at hl 4 rfl) ?_
  refine lv_iconst (v := 0) hx hb dX1_raise_8 (by decide) ?_
  refine lv_bipush (v := 50) hx hb dX1_raise_9 (by decide) ?_
  refine cx_Sv (As := [.int v, .int 0, .int 50]) (rest := []) (wr := [(g, .inr (1, [.ref hn, .ref ha])), (hn, .inr (0, [.ref (adn 0), .ref (adn 1), .ref (adn 2), .ref (adn 3), .ref (adn 4), .ref (adn 5), .ref (adn 6), .int (nI (m_t σ)), .int (m_bro σ), .int (m_drd σ), .int (m_lef σ), .ref (adn 11), .ref (adn 12), .ref (adn 13), .ref (adn 14)])), ((adn 0), .inl (cI, 64, .inl hei)), ((adn 1), .inl (cI, 64, .inl (m_wat σ))), ((adn 2), .inl (cI, 64, .inl (m_dam σ))), ((adn 3), .inl (cI, 64, .inl (m_wea σ))), ((adn 4), .inl (cI, 64, .inl dra)), ((adn 5), .inl (cI, 64, .inl (m_peo σ))), ((adn 6), .inl (cI, 12, .inl rai)), ((adn 11), .inl (cI, 64, .inl cre)), ((adn 12), .inl (cI, 64, .inl gai)), ((adn 13), .inl (cI, 64, .inl see)), ((adn 14), .inl (cI, 64, .inl fou)), (ha, .inr (0, [.ref (ada 0), .ref (ada 1), .ref (ada 2), .ref (ada 3), .ref (ada 4), .ref (ada 5), .ref (ada 6), .int (z 7 0), .int (z 8 0), .int (z 9 0), .int (z 10 0), .ref (ada 11), .ref (ada 12), .ref (ada 13), .ref (ada 14)])), ((ada 0), .inl (cI, 64, .inl (z 0))), ((ada 1), .inl (cI, 64, .inl (z 1))), ((ada 2), .inl (cI, 64, .inl (z 2))), ((ada 3), .inl (cI, 64, .inl (z 3))), ((ada 4), .inl (cI, 64, .inl (z 4))), ((ada 5), .inl (cI, 64, .inl (z 5))), ((ada 6), .inl (cI, 12, .inl (z 6))), ((ada 11), .inl (cI, 64, .inl (z 11))), ((ada 12), .inl (cI, 64, .inl (z 12))), ((ada 13), .inl (cI, 64, .inl (z 13))), ((ada 14), .inl (cI, 64, .inl (z 14)))]) (W1 := fun u => ((gW g hn ha) ++ ((pM hn adn cI hei dra rai σ cre gai see fou) ++ ((pZ ha ada cI z))))) (cells1 := 3) (slots1 := 18) ⟨hx, hb, hml, hown, hts⟩ (c_reqW l hst D cI sa1 sa2 v 0 50) (va_cwS 3 hts gX1_raise_X1_requireWithin rfl rfl rfl (by decide +kernel) ⟨Nat.le_of_ble_eq_true rfl, Nat.le_of_ble_eq_true rfl⟩) hK hP hD hS hA hT [] [0, 1, 2, 3, 4, 5, 6, 7, 8, 9, 10, 11, 12, 13, 14, 15, 16, 17, 18, 19, 20, 21, 22, 23, 24] ⟨rfl, rfl, rfl, rfl, rfl⟩ [0, 1, 2, 3, 4, 5, 6, 7, 8, 9, 10, 11, 12, 13, 14, 15, 16, 17, 18, 19, 20, 21, 22, 23, 24] rfl (fun _ => rfl) [0, 1, 2, 3, 4, 5, 6, 7, 8, 9, 10, 11, 12, 13, 14, 15, 16, 17, 18, 19, 20, 21, 22, 23, 24] rfl rfl [0] rfl rfl hl.1 rfl (Nat.le_of_ble_eq_true rfl) rfl rfl ⟨Nat.le_of_ble_eq_true rfl, Nat.le_of_ble_eq_true rfl⟩ dX1_raise_11 (fun E ce q9 H locs hex hP hD hS hce hcv hcl => finx E ce q9 H locs 3 18 11 ls _ (Or.inr ⟨hex.1, hin, hex.2⟩) hP hD hS hce hcv hcl (Nat.le_of_ble_eq_true rfl) (Nat.le_of_ble_eq_true rfl)) (fun u H locs hw hP hD hS => ?_)
  have hv := hw
  refine lv_aload_n hx hb dX1_raise_14 rfl (lv_at hl 1 rfl) ?_
  refine va_get (D := D) (ci := 1) (v := .ref hn) (C := RX1) (T := TX1) (N := 2) hx hb hts (fun _ h9 => (List.mem_cons_of_mem _ (List.mem_append_left _ (List.mem_append_left _ (List.mem_append_left _ (List.mem_append_right _ h9)))))) hown hK hP 0 rfl rfl 0 (by decide) (hts (Cond.fieldLink RX1 10 "FloodGrid" "now" "LFloodGrid$Plain;") (List.mem_of_getElem? (i := 1) rfl)) (fun _ h9 => h9) rfl dX1_raise_15 ?_
  refine va_get (D := D) (ci := 0) (v := .ref (adn 0)) (C := RX0) (T := TX0) (N := 15) hx hb hts (fun _ h9 => (List.mem_cons_of_mem _ (List.mem_append_left _ (List.mem_append_left _ (List.mem_append_right _ h9))))) hown hK hP 1 rfl rfl 0 (by decide) (hts (Cond.fieldLink RX1 27 "FloodGrid$Plain" "height" "[I") (List.mem_of_getElem? (i := 2) rfl)) (fun _ h9 => h9) rfl dX1_raise_18 ?_
  refine lv_iload hx hb dX1_raise_21 (lv_at hl 0 rfl) ?_
  refine ct_iald (v := hei (q_at x y)) hx hb hK hP 2 0 rfl rfl (q_at x y) rfl hat (by decide) rfl dX1_raise_23 ?_
  refine lv_istore (lv' := [(5, .int (hei (q_at x y))), (4, .int (nI (q_at x y))), (0, .ref g), (1, .int x), (2, .int y), (3, .int v)]) hx hb dX1_raise_24 hl (by decide) rfl (fun ls hl => ?_)
  refine lv_aload_n hx hb dX1_raise_26 rfl (lv_at hl 2 rfl) ?_
  refine va_get (D := D) (ci := 1) (v := .ref hn) (C := RX1) (T := TX1) (N := 2) hx hb hts (fun _ h9 => (List.mem_cons_of_mem _ (List.mem_append_left _ (List.mem_append_left _ (List.mem_append_left _ (List.mem_append_right _ h9)))))) hown hK hP 0 rfl rfl 0 (by decide) (hts (Cond.fieldLink RX1 10 "FloodGrid" "now" "LFloodGrid$Plain;") (List.mem_of_getElem? (i := 1) rfl)) (fun _ h9 => h9) rfl dX1_raise_27 ?_
  refine va_get (D := D) (ci := 0) (v := .ref (adn 0)) (C := RX0) (T := TX0) (N := 15) hx hb hts (fun _ h9 => (List.mem_cons_of_mem _ (List.mem_append_left _ (List.mem_append_left _ (List.mem_append_right _ h9))))) hown hK hP 1 rfl rfl 0 (by decide) (hts (Cond.fieldLink RX1 27 "FloodGrid$Plain" "height" "[I") (List.mem_of_getElem? (i := 2) rfl)) (fun _ h9 => h9) rfl dX1_raise_30 ?_
  refine lv_iload hx hb dX1_raise_33 (lv_at hl 1 rfl) ?_
  refine lv_iload_n hx hb dX1_raise_35 rfl (lv_at hl 5 rfl) ?_
  refine ct_iast (g := upd hei (q_at x y) v) (ws1 := ((gW g hn ha) ++ ((pM hn adn cI (upd hei (q_at x y) v) dra rai σ cre gai see fou) ++ ((pZ ha ada cI z))))) hx hb hK hP hD hS 2 0 rfl rfl (q_at x y) rfl hat (by decide) rfl rfl dX1_raise_36 (fun H locs hP hD hS => ?_)
  refine lv_iload hx hb dX1_raise_37 (lv_at hl 0 rfl) ?_
  exact fin (hei (q_at x y)) () H locs 3 18 39 ls dX1_raise_39 ⟨hin, hv, rfl⟩ hP hD hS (Nat.le_of_ble_eq_true rfl) (Nat.le_of_ble_eq_true rfl)
abbrev rm_X1_drain : Room := { frames := 8, cells := 3, slots := 18, locals := 133 }
set_option maxHeartbeats 4000000 in
set_option maxRecDepth 100000 in
theorem c_X1_drain (l : Launch) (hst : l.stackTraces = false) (D : va_G) (cI : ClassId) (sa1 sa2 : Nat) (g hn ha : Nat) (adn ada : Nat → Nat) (hei dra rai : Nat → Int32) (σ : Ms) (cre gai see fou : Nat → Int32) (z : Nat → Nat → Int32) (x y v : Int32) : cx_i (S := Unit) l D yX1_drain wsX1_drain rm_X1_drain [.ref g, .int x, .int y, .int v] ((gW g hn ha) ++ ((pM hn adn cI hei dra rai σ cre gai see fou) ++ ((pZ ha ada cI z)))) [(cI, .int)] sa1 sa2 (fun r (_ : Unit) => inC x y ∧ (0 ≤ v ∧ v ≤ 9) ∧ r = dra (q_at x y)) (fun _ => (fW g hn ha adn ada cI hei (upd dra (q_at x y) v) rai σ cre gai see fou z)) (fun E => (E = "java/lang/IndexOutOfBoundsException" ∧ ¬ inC x y) ∨ (E = "java/lang/IllegalArgumentException" ∧ inC x y ∧ ¬ (0 ≤ v ∧ v ≤ 9))) := by
  refine cx_ofi (cc := cX1_drain) (maxL := 6) (by decide) rfl (Nat.le_of_ble_eq_true rfl) ?_
  intro p e s m args below meth c A Q hx hb hml hown hts hA hK hT H locs hP hD hS fin finx ls hl
  have hown : s.vm.findClass RX1 = some m.cls := hown
  have hl : lv_has ls 6 [(0, .ref g), (1, .int x), (2, .int y), (3, .int v)] := hl
  refine lv_iload_n hx hb dX1_drain_0 rfl (lv_at hl 1 rfl) ?_
  refine lv_iload_n hx hb dX1_drain_1 rfl (lv_at hl 2 rfl) ?_
  refine cx_Si (As := [.int x, .int y]) (rest := []) (wr := [(g, .inr (1, [.ref hn, .ref ha])), (hn, .inr (0, [.ref (adn 0), .ref (adn 1), .ref (adn 2), .ref (adn 3), .ref (adn 4), .ref (adn 5), .ref (adn 6), .int (nI (m_t σ)), .int (m_bro σ), .int (m_drd σ), .int (m_lef σ), .ref (adn 11), .ref (adn 12), .ref (adn 13), .ref (adn 14)])), ((adn 0), .inl (cI, 64, .inl hei)), ((adn 1), .inl (cI, 64, .inl (m_wat σ))), ((adn 2), .inl (cI, 64, .inl (m_dam σ))), ((adn 3), .inl (cI, 64, .inl (m_wea σ))), ((adn 4), .inl (cI, 64, .inl dra)), ((adn 5), .inl (cI, 64, .inl (m_peo σ))), ((adn 6), .inl (cI, 12, .inl rai)), ((adn 11), .inl (cI, 64, .inl cre)), ((adn 12), .inl (cI, 64, .inl gai)), ((adn 13), .inl (cI, 64, .inl see)), ((adn 14), .inl (cI, 64, .inl fou)), (ha, .inr (0, [.ref (ada 0), .ref (ada 1), .ref (ada 2), .ref (ada 3), .ref (ada 4), .ref (ada 5), .ref (ada 6), .int (z 7 0), .int (z 8 0), .int (z 9 0), .int (z 10 0), .ref (ada 11), .ref (ada 12), .ref (ada 13), .ref (ada 14)])), ((ada 0), .inl (cI, 64, .inl (z 0))), ((ada 1), .inl (cI, 64, .inl (z 1))), ((ada 2), .inl (cI, 64, .inl (z 2))), ((ada 3), .inl (cI, 64, .inl (z 3))), ((ada 4), .inl (cI, 64, .inl (z 4))), ((ada 5), .inl (cI, 64, .inl (z 5))), ((ada 6), .inl (cI, 12, .inl (z 6))), ((ada 11), .inl (cI, 64, .inl (z 11))), ((ada 12), .inl (cI, 64, .inl (z 12))), ((ada 13), .inl (cI, 64, .inl (z 13))), ((ada 14), .inl (cI, 64, .inl (z 14)))]) (W1 := fun u => ((gW g hn ha) ++ ((pM hn adn cI hei dra rai σ cre gai see fou) ++ ((pZ ha ada cI z))))) (cells1 := 2) (slots1 := 12) ⟨hx, hb, hml, hown, hts⟩ (c_place l hst D cI sa1 sa2 x y) (va_cwS 2 hts gX1_drain_X1_placeOf rfl rfl rfl (by decide +kernel) ⟨Nat.le_of_ble_eq_true rfl, Nat.le_of_ble_eq_true rfl⟩) hK hP hD hS hA hT [] [0, 1, 2, 3, 4, 5, 6, 7, 8, 9, 10, 11, 12, 13, 14, 15, 16, 17, 18, 19, 20, 21, 22, 23, 24] ⟨rfl, rfl, rfl, rfl, rfl⟩ [0, 1, 2, 3, 4, 5, 6, 7, 8, 9, 10, 11, 12, 13, 14, 15, 16, 17, 18, 19, 20, 21, 22, 23, 24] rfl (fun _ => rfl) [0, 1, 2, 3, 4, 5, 6, 7, 8, 9, 10, 11, 12, 13, 14, 15, 16, 17, 18, 19, 20, 21, 22, 23, 24] rfl rfl [0] rfl rfl hl.1 rfl (Nat.le_of_ble_eq_true rfl) rfl rfl ⟨Nat.le_of_ble_eq_true rfl, Nat.le_of_ble_eq_true rfl⟩ dX1_drain_2 (fun E ce q9 H locs hex hP hD hS hce hcv hcl => finx E ce q9 H locs 2 12 2 ls _ (Or.inl hex) hP hD hS hce hcv hcl (Nat.le_of_ble_eq_true rfl) (Nat.le_of_ble_eq_true rfl)) (fun r u H locs hw hP hD hS => ?_)
  obtain ⟨hin, rfl⟩ := hw
  have hat := q_at_lt hin
  refine lv_istore (lv' := [(4, .int (nI (q_at x y))), (0, .ref g), (1, .int x), (2, .int y), (3, .int v)]) hx hb dX1_drain_5 hl (by decide) rfl (fun ls hl => ?_)
  refine lv_iload_n hx hb dX1_drain_7 rfl (lv_at hl 4 rfl) ?_
  refine lv_iconst (v := 0) hx hb dX1_drain_8 (by decide) ?_
  refine lv_bipush (v := 9) hx hb dX1_drain_9 (by decide) ?_
  refine cx_Sv (As := [.int v, .int 0, .int 9]) (rest := []) (wr := [(g, .inr (1, [.ref hn, .ref ha])), (hn, .inr (0, [.ref (adn 0), .ref (adn 1), .ref (adn 2), .ref (adn 3), .ref (adn 4), .ref (adn 5), .ref (adn 6), .int (nI (m_t σ)), .int (m_bro σ), .int (m_drd σ), .int (m_lef σ), .ref (adn 11), .ref (adn 12), .ref (adn 13), .ref (adn 14)])), ((adn 0), .inl (cI, 64, .inl hei)), ((adn 1), .inl (cI, 64, .inl (m_wat σ))), ((adn 2), .inl (cI, 64, .inl (m_dam σ))), ((adn 3), .inl (cI, 64, .inl (m_wea σ))), ((adn 4), .inl (cI, 64, .inl dra)), ((adn 5), .inl (cI, 64, .inl (m_peo σ))), ((adn 6), .inl (cI, 12, .inl rai)), ((adn 11), .inl (cI, 64, .inl cre)), ((adn 12), .inl (cI, 64, .inl gai)), ((adn 13), .inl (cI, 64, .inl see)), ((adn 14), .inl (cI, 64, .inl fou)), (ha, .inr (0, [.ref (ada 0), .ref (ada 1), .ref (ada 2), .ref (ada 3), .ref (ada 4), .ref (ada 5), .ref (ada 6), .int (z 7 0), .int (z 8 0), .int (z 9 0), .int (z 10 0), .ref (ada 11), .ref (ada 12), .ref (ada 13), .ref (ada 14)])), ((ada 0), .inl (cI, 64, .inl (z 0))), ((ada 1), .inl (cI, 64, .inl (z 1))), ((ada 2), .inl (cI, 64, .inl (z 2))), ((ada 3), .inl (cI, 64, .inl (z 3))), ((ada 4), .inl (cI, 64, .inl (z 4))), ((ada 5), .inl (cI, 64, .inl (z 5))), ((ada 6), .inl (cI, 12, .inl (z 6))), ((ada 11), .inl (cI, 64, .inl (z 11))), ((ada 12), .inl (cI, 64, .inl (z 12))), ((ada 13), .inl (cI, 64, .inl (z 13))), ((ada 14), .inl (cI, 64, .inl (z 14)))]) (W1 := fun u => ((gW g hn ha) ++ ((pM hn adn cI hei dra rai σ cre gai see fou) ++ ((pZ ha ada cI z))))) (cells1 := 3) (slots1 := 18) ⟨hx, hb, hml, hown, hts⟩ (c_reqW l hst D cI sa1 sa2 v 0 9) (va_cwS 3 hts gX1_drain_X1_requireWithin rfl rfl rfl (by decide +kernel) ⟨Nat.le_of_ble_eq_true rfl, Nat.le_of_ble_eq_true rfl⟩) hK hP hD hS hA hT [] [0, 1, 2, 3, 4, 5, 6, 7, 8, 9, 10, 11, 12, 13, 14, 15, 16, 17, 18, 19, 20, 21, 22, 23, 24] ⟨rfl, rfl, rfl, rfl, rfl⟩ [0, 1, 2, 3, 4, 5, 6, 7, 8, 9, 10, 11, 12, 13, 14, 15, 16, 17, 18, 19, 20, 21, 22, 23, 24] rfl (fun _ => rfl) [0, 1, 2, 3, 4, 5, 6, 7, 8, 9, 10, 11, 12, 13, 14, 15, 16, 17, 18, 19, 20, 21, 22, 23, 24] rfl rfl [0] rfl rfl hl.1 rfl (Nat.le_of_ble_eq_true rfl) rfl rfl ⟨Nat.le_of_ble_eq_true rfl, Nat.le_of_ble_eq_true rfl⟩ dX1_drain_11 (fun E ce q9 H locs hex hP hD hS hce hcv hcl => finx E ce q9 H locs 3 18 11 ls _ (Or.inr ⟨hex.1, hin, hex.2⟩) hP hD hS hce hcv hcl (Nat.le_of_ble_eq_true rfl) (Nat.le_of_ble_eq_true rfl)) (fun u H locs hw hP hD hS => ?_)
  have hv := hw
  refine lv_aload_n hx hb dX1_drain_14 rfl (lv_at hl 1 rfl) ?_
  refine va_get (D := D) (ci := 1) (v := .ref hn) (C := RX1) (T := TX1) (N := 2) hx hb hts (fun _ h9 => (List.mem_cons_of_mem _ (List.mem_append_left _ (List.mem_append_left _ (List.mem_append_left _ (List.mem_append_right _ h9)))))) hown hK hP 0 rfl rfl 0 (by decide) (hts (Cond.fieldLink RX1 10 "FloodGrid" "now" "LFloodGrid$Plain;") (List.mem_of_getElem? (i := 1) rfl)) (fun _ h9 => h9) rfl dX1_drain_15 ?_
  refine va_get (D := D) (ci := 0) (v := .ref (adn 4)) (C := RX0) (T := TX0) (N := 15) hx hb hts (fun _ h9 => (List.mem_cons_of_mem _ (List.mem_append_left _ (List.mem_append_left _ (List.mem_append_right _ h9))))) hown hK hP 1 rfl rfl 4 (by decide) (hts (Cond.fieldLink RX1 45 "FloodGrid$Plain" "drain" "[I") (List.mem_of_getElem? (i := 2) rfl)) (fun _ h9 => h9) rfl dX1_drain_18 ?_
  refine lv_iload hx hb dX1_drain_21 (lv_at hl 0 rfl) ?_
  refine ct_iald (v := dra (q_at x y)) hx hb hK hP 6 0 rfl rfl (q_at x y) rfl hat (by decide) rfl dX1_drain_23 ?_
  refine lv_istore (lv' := [(5, .int (dra (q_at x y))), (4, .int (nI (q_at x y))), (0, .ref g), (1, .int x), (2, .int y), (3, .int v)]) hx hb dX1_drain_24 hl (by decide) rfl (fun ls hl => ?_)
  refine lv_aload_n hx hb dX1_drain_26 rfl (lv_at hl 2 rfl) ?_
  refine va_get (D := D) (ci := 1) (v := .ref hn) (C := RX1) (T := TX1) (N := 2) hx hb hts (fun _ h9 => (List.mem_cons_of_mem _ (List.mem_append_left _ (List.mem_append_left _ (List.mem_append_left _ (List.mem_append_right _ h9)))))) hown hK hP 0 rfl rfl 0 (by decide) (hts (Cond.fieldLink RX1 10 "FloodGrid" "now" "LFloodGrid$Plain;") (List.mem_of_getElem? (i := 1) rfl)) (fun _ h9 => h9) rfl dX1_drain_27 ?_
  refine va_get (D := D) (ci := 0) (v := .ref (adn 4)) (C := RX0) (T := TX0) (N := 15) hx hb hts (fun _ h9 => (List.mem_cons_of_mem _ (List.mem_append_left _ (List.mem_append_left _ (List.mem_append_right _ h9))))) hown hK hP 1 rfl rfl 4 (by decide) (hts (Cond.fieldLink RX1 45 "FloodGrid$Plain" "drain" "[I") (List.mem_of_getElem? (i := 2) rfl)) (fun _ h9 => h9) rfl dX1_drain_30 ?_
  refine lv_iload hx hb dX1_drain_33 (lv_at hl 1 rfl) ?_
  refine lv_iload_n hx hb dX1_drain_35 rfl (lv_at hl 5 rfl) ?_
  refine ct_iast (g := upd dra (q_at x y) v) (ws1 := ((gW g hn ha) ++ ((pM hn adn cI hei (upd dra (q_at x y) v) rai σ cre gai see fou) ++ ((pZ ha ada cI z))))) hx hb hK hP hD hS 6 0 rfl rfl (q_at x y) rfl hat (by decide) rfl rfl dX1_drain_36 (fun H locs hP hD hS => ?_)
  refine lv_iload hx hb dX1_drain_37 (lv_at hl 0 rfl) ?_
  exact fin (dra (q_at x y)) () H locs 3 18 39 ls dX1_drain_39 ⟨hin, hv, rfl⟩ hP hD hS (Nat.le_of_ble_eq_true rfl) (Nat.le_of_ble_eq_true rfl)
abbrev rm_X1_settle : Room := { frames := 8, cells := 3, slots := 18, locals := 133 }
set_option maxHeartbeats 4000000 in
set_option maxRecDepth 100000 in
theorem c_X1_settle (l : Launch) (hst : l.stackTraces = false) (D : va_G) (cI : ClassId) (sa1 sa2 : Nat) (g hn ha : Nat) (adn ada : Nat → Nat) (hei dra rai : Nat → Int32) (σ : Ms) (cre gai see fou : Nat → Int32) (z : Nat → Nat → Int32) (x y v : Int32) : cx_i (S := Unit) l D yX1_settle wsX1_settle rm_X1_settle [.ref g, .int x, .int y, .int v] ((gW g hn ha) ++ ((pM hn adn cI hei dra rai σ cre gai see fou) ++ ((pZ ha ada cI z)))) [(cI, .int)] sa1 sa2 (fun r (_ : Unit) => inC x y ∧ (0 ≤ v ∧ v ≤ 90) ∧ r = (m_peo σ) (q_at x y)) (fun _ => (fW g hn ha adn ada cI hei dra rai (m_wat σ, m_dam σ, m_wea σ, upd (m_peo σ) (q_at x y) v, m_t σ, m_bro σ, m_drd σ, m_lef σ) cre gai see fou z)) (fun E => (E = "java/lang/IndexOutOfBoundsException" ∧ ¬ inC x y) ∨ (E = "java/lang/IllegalArgumentException" ∧ inC x y ∧ ¬ (0 ≤ v ∧ v ≤ 90))) := by
  refine cx_ofi (cc := cX1_settle) (maxL := 6) (by decide) rfl (Nat.le_of_ble_eq_true rfl) ?_
  intro p e s m args below meth c A Q hx hb hml hown hts hA hK hT H locs hP hD hS fin finx ls hl
  have hown : s.vm.findClass RX1 = some m.cls := hown
  have hl : lv_has ls 6 [(0, .ref g), (1, .int x), (2, .int y), (3, .int v)] := hl
  refine lv_iload_n hx hb dX1_settle_0 rfl (lv_at hl 1 rfl) ?_
  refine lv_iload_n hx hb dX1_settle_1 rfl (lv_at hl 2 rfl) ?_
  refine cx_Si (As := [.int x, .int y]) (rest := []) (wr := [(g, .inr (1, [.ref hn, .ref ha])), (hn, .inr (0, [.ref (adn 0), .ref (adn 1), .ref (adn 2), .ref (adn 3), .ref (adn 4), .ref (adn 5), .ref (adn 6), .int (nI (m_t σ)), .int (m_bro σ), .int (m_drd σ), .int (m_lef σ), .ref (adn 11), .ref (adn 12), .ref (adn 13), .ref (adn 14)])), ((adn 0), .inl (cI, 64, .inl hei)), ((adn 1), .inl (cI, 64, .inl (m_wat σ))), ((adn 2), .inl (cI, 64, .inl (m_dam σ))), ((adn 3), .inl (cI, 64, .inl (m_wea σ))), ((adn 4), .inl (cI, 64, .inl dra)), ((adn 5), .inl (cI, 64, .inl (m_peo σ))), ((adn 6), .inl (cI, 12, .inl rai)), ((adn 11), .inl (cI, 64, .inl cre)), ((adn 12), .inl (cI, 64, .inl gai)), ((adn 13), .inl (cI, 64, .inl see)), ((adn 14), .inl (cI, 64, .inl fou)), (ha, .inr (0, [.ref (ada 0), .ref (ada 1), .ref (ada 2), .ref (ada 3), .ref (ada 4), .ref (ada 5), .ref (ada 6), .int (z 7 0), .int (z 8 0), .int (z 9 0), .int (z 10 0), .ref (ada 11), .ref (ada 12), .ref (ada 13), .ref (ada 14)])), ((ada 0), .inl (cI, 64, .inl (z 0))), ((ada 1), .inl (cI, 64, .inl (z 1))), ((ada 2), .inl (cI, 64, .inl (z 2))), ((ada 3), .inl (cI, 64, .inl (z 3))), ((ada 4), .inl (cI, 64, .inl (z 4))), ((ada 5), .inl (cI, 64, .inl (z 5))), ((ada 6), .inl (cI, 12, .inl (z 6))), ((ada 11), .inl (cI, 64, .inl (z 11))), ((ada 12), .inl (cI, 64, .inl (z 12))), ((ada 13), .inl (cI, 64, .inl (z 13))), ((ada 14), .inl (cI, 64, .inl (z 14)))]) (W1 := fun u => ((gW g hn ha) ++ ((pM hn adn cI hei dra rai σ cre gai see fou) ++ ((pZ ha ada cI z))))) (cells1 := 2) (slots1 := 12) ⟨hx, hb, hml, hown, hts⟩ (c_place l hst D cI sa1 sa2 x y) (va_cwS 2 hts gX1_settle_X1_placeOf rfl rfl rfl (by decide +kernel) ⟨Nat.le_of_ble_eq_true rfl, Nat.le_of_ble_eq_true rfl⟩) hK hP hD hS hA hT [] [0, 1, 2, 3, 4, 5, 6, 7, 8, 9, 10, 11, 12, 13, 14, 15, 16, 17, 18, 19, 20, 21, 22, 23, 24] ⟨rfl, rfl, rfl, rfl, rfl⟩ [0, 1, 2, 3, 4, 5, 6, 7, 8, 9, 10, 11, 12, 13, 14, 15, 16, 17, 18, 19, 20, 21, 22, 23, 24] rfl (fun _ => rfl) [0, 1, 2, 3, 4, 5, 6, 7, 8, 9, 10, 11, 12, 13, 14, 15, 16, 17, 18, 19, 20, 21, 22, 23, 24] rfl rfl [0] rfl rfl hl.1 rfl (Nat.le_of_ble_eq_true rfl) rfl rfl ⟨Nat.le_of_ble_eq_true rfl, Nat.le_of_ble_eq_true rfl⟩ dX1_settle_2 (fun E ce q9 H locs hex hP hD hS hce hcv hcl => finx E ce q9 H locs 2 12 2 ls _ (Or.inl hex) hP hD hS hce hcv hcl (Nat.le_of_ble_eq_true rfl) (Nat.le_of_ble_eq_true rfl)) (fun r u H locs hw hP hD hS => ?_)
  obtain ⟨hin, rfl⟩ := hw
  have hat := q_at_lt hin
  refine lv_istore (lv' := [(4, .int (nI (q_at x y))), (0, .ref g), (1, .int x), (2, .int y), (3, .int v)]) hx hb dX1_settle_5 hl (by decide) rfl (fun ls hl => ?_)
  refine lv_iload_n hx hb dX1_settle_7 rfl (lv_at hl 4 rfl) ?_
  refine lv_iconst (v := 0) hx hb dX1_settle_8 (by decide) ?_
  refine lv_bipush (v := 90) hx hb dX1_settle_9 (by decide) ?_
  refine cx_Sv (As := [.int v, .int 0, .int 90]) (rest := []) (wr := [(g, .inr (1, [.ref hn, .ref ha])), (hn, .inr (0, [.ref (adn 0), .ref (adn 1), .ref (adn 2), .ref (adn 3), .ref (adn 4), .ref (adn 5), .ref (adn 6), .int (nI (m_t σ)), .int (m_bro σ), .int (m_drd σ), .int (m_lef σ), .ref (adn 11), .ref (adn 12), .ref (adn 13), .ref (adn 14)])), ((adn 0), .inl (cI, 64, .inl hei)), ((adn 1), .inl (cI, 64, .inl (m_wat σ))), ((adn 2), .inl (cI, 64, .inl (m_dam σ))), ((adn 3), .inl (cI, 64, .inl (m_wea σ))), ((adn 4), .inl (cI, 64, .inl dra)), ((adn 5), .inl (cI, 64, .inl (m_peo σ))), ((adn 6), .inl (cI, 12, .inl rai)), ((adn 11), .inl (cI, 64, .inl cre)), ((adn 12), .inl (cI, 64, .inl gai)), ((adn 13), .inl (cI, 64, .inl see)), ((adn 14), .inl (cI, 64, .inl fou)), (ha, .inr (0, [.ref (ada 0), .ref (ada 1), .ref (ada 2), .ref (ada 3), .ref (ada 4), .ref (ada 5), .ref (ada 6), .int (z 7 0), .int (z 8 0), .int (z 9 0), .int (z 10 0), .ref (ada 11), .ref (ada 12), .ref (ada 13), .ref (ada 14)])), ((ada 0), .inl (cI, 64, .inl (z 0))), ((ada 1), .inl (cI, 64, .inl (z 1))), ((ada 2), .inl (cI, 64, .inl (z 2))), ((ada 3), .inl (cI, 64, .inl (z 3))), ((ada 4), .inl (cI, 64, .inl (z 4))), ((ada 5), .inl (cI, 64, .inl (z 5))), ((ada 6), .inl (cI, 12, .inl (z 6))), ((ada 11), .inl (cI, 64, .inl (z 11))), ((ada 12), .inl (cI, 64, .inl (z 12))), ((ada 13), .inl (cI, 64, .inl (z 13))), ((ada 14), .inl (cI, 64, .inl (z 14)))]) (W1 := fun u => ((gW g hn ha) ++ ((pM hn adn cI hei dra rai σ cre gai see fou) ++ ((pZ ha ada cI z))))) (cells1 := 3) (slots1 := 18) ⟨hx, hb, hml, hown, hts⟩ (c_reqW l hst D cI sa1 sa2 v 0 90) (va_cwS 3 hts gX1_settle_X1_requireWithin rfl rfl rfl (by decide +kernel) ⟨Nat.le_of_ble_eq_true rfl, Nat.le_of_ble_eq_true rfl⟩) hK hP hD hS hA hT [] [0, 1, 2, 3, 4, 5, 6, 7, 8, 9, 10, 11, 12, 13, 14, 15, 16, 17, 18, 19, 20, 21, 22, 23, 24] ⟨rfl, rfl, rfl, rfl, rfl⟩ [0, 1, 2, 3, 4, 5, 6, 7, 8, 9, 10, 11, 12, 13, 14, 15, 16, 17, 18, 19, 20, 21, 22, 23, 24] rfl (fun _ => rfl) [0, 1, 2, 3, 4, 5, 6, 7, 8, 9, 10, 11, 12, 13, 14, 15, 16, 17, 18, 19, 20, 21, 22, 23, 24] rfl rfl [0] rfl rfl hl.1 rfl (Nat.le_of_ble_eq_true rfl) rfl rfl ⟨Nat.le_of_ble_eq_true rfl, Nat.le_of_ble_eq_true rfl⟩ dX1_settle_11 (fun E ce q9 H locs hex hP hD hS hce hcv hcl => finx E ce q9 H locs 3 18 11 ls _ (Or.inr ⟨hex.1, hin, hex.2⟩) hP hD hS hce hcv hcl (Nat.le_of_ble_eq_true rfl) (Nat.le_of_ble_eq_true rfl)) (fun u H locs hw hP hD hS => ?_)
  have hv := hw
  refine lv_aload_n hx hb dX1_settle_14 rfl (lv_at hl 1 rfl) ?_
  refine va_get (D := D) (ci := 1) (v := .ref hn) (C := RX1) (T := TX1) (N := 2) hx hb hts (fun _ h9 => (List.mem_cons_of_mem _ (List.mem_append_left _ (List.mem_append_left _ (List.mem_append_left _ (List.mem_append_right _ h9)))))) hown hK hP 0 rfl rfl 0 (by decide) (hts (Cond.fieldLink RX1 10 "FloodGrid" "now" "LFloodGrid$Plain;") (List.mem_of_getElem? (i := 1) rfl)) (fun _ h9 => h9) rfl dX1_settle_15 ?_
  refine va_get (D := D) (ci := 0) (v := .ref (adn 5)) (C := RX0) (T := TX0) (N := 15) hx hb hts (fun _ h9 => (List.mem_cons_of_mem _ (List.mem_append_left _ (List.mem_append_left _ (List.mem_append_right _ h9))))) hown hK hP 1 rfl rfl 5 (by decide) (hts (Cond.fieldLink RX1 48 "FloodGrid$Plain" "people" "[I") (List.mem_of_getElem? (i := 2) rfl)) (fun _ h9 => h9) rfl dX1_settle_18 ?_
  refine lv_iload hx hb dX1_settle_21 (lv_at hl 0 rfl) ?_
  refine ct_iald (v := (m_peo σ) (q_at x y)) hx hb hK hP 7 0 rfl rfl (q_at x y) rfl hat (by decide) rfl dX1_settle_23 ?_
  refine lv_istore (lv' := [(5, .int ((m_peo σ) (q_at x y))), (4, .int (nI (q_at x y))), (0, .ref g), (1, .int x), (2, .int y), (3, .int v)]) hx hb dX1_settle_24 hl (by decide) rfl (fun ls hl => ?_)
  refine lv_aload_n hx hb dX1_settle_26 rfl (lv_at hl 2 rfl) ?_
  refine va_get (D := D) (ci := 1) (v := .ref hn) (C := RX1) (T := TX1) (N := 2) hx hb hts (fun _ h9 => (List.mem_cons_of_mem _ (List.mem_append_left _ (List.mem_append_left _ (List.mem_append_left _ (List.mem_append_right _ h9)))))) hown hK hP 0 rfl rfl 0 (by decide) (hts (Cond.fieldLink RX1 10 "FloodGrid" "now" "LFloodGrid$Plain;") (List.mem_of_getElem? (i := 1) rfl)) (fun _ h9 => h9) rfl dX1_settle_27 ?_
  refine va_get (D := D) (ci := 0) (v := .ref (adn 5)) (C := RX0) (T := TX0) (N := 15) hx hb hts (fun _ h9 => (List.mem_cons_of_mem _ (List.mem_append_left _ (List.mem_append_left _ (List.mem_append_right _ h9))))) hown hK hP 1 rfl rfl 5 (by decide) (hts (Cond.fieldLink RX1 48 "FloodGrid$Plain" "people" "[I") (List.mem_of_getElem? (i := 2) rfl)) (fun _ h9 => h9) rfl dX1_settle_30 ?_
  refine lv_iload hx hb dX1_settle_33 (lv_at hl 1 rfl) ?_
  refine lv_iload_n hx hb dX1_settle_35 rfl (lv_at hl 5 rfl) ?_
  refine ct_iast (g := upd (m_peo σ) (q_at x y) v) (ws1 := ((gW g hn ha) ++ ((pW hn adn cI hei (m_wat σ) (m_dam σ) (m_wea σ) dra (upd (m_peo σ) (q_at x y) v) rai (nI (m_t σ)) (m_bro σ) (m_drd σ) (m_lef σ) cre gai see fou) ++ ((pZ ha ada cI z))))) hx hb hK hP hD hS 7 0 rfl rfl (q_at x y) rfl hat (by decide) rfl rfl dX1_settle_36 (fun H locs hP hD hS => ?_)
  refine lv_iload hx hb dX1_settle_37 (lv_at hl 0 rfl) ?_
  exact fin ((m_peo σ) (q_at x y)) () H locs 3 18 39 ls dX1_settle_39 ⟨hin, hv, rfl⟩ hP hD hS (Nat.le_of_ble_eq_true rfl) (Nat.le_of_ble_eq_true rfl)
abbrev rm_X1_dam : Room := { frames := 8, cells := 3, slots := 18, locals := 133 }
set_option maxHeartbeats 4000000 in
set_option maxRecDepth 100000 in
theorem c_X1_dam (l : Launch) (hst : l.stackTraces = false) (D : va_G) (cI : ClassId) (sa1 sa2 : Nat) (g hn ha : Nat) (adn ada : Nat → Nat) (hei dra rai : Nat → Int32) (σ : Ms) (cre gai see fou : Nat → Int32) (z : Nat → Nat → Int32) (x y v : Int32) : cx_i (S := Unit) l D yX1_dam wsX1_dam rm_X1_dam [.ref g, .int x, .int y, .int v] ((gW g hn ha) ++ ((pM hn adn cI hei dra rai σ cre gai see fou) ++ ((pZ ha ada cI z)))) [(cI, .int)] sa1 sa2 (fun r (_ : Unit) => inC x y ∧ (0 ≤ v ∧ v ≤ 20) ∧ r = (m_dam σ) (q_at x y)) (fun _ => (fW g hn ha adn ada cI hei dra rai (q_with σ (q_at x y) v) cre gai see fou z)) (fun E => (E = "java/lang/IndexOutOfBoundsException" ∧ ¬ inC x y) ∨ (E = "java/lang/IllegalArgumentException" ∧ inC x y ∧ ¬ (0 ≤ v ∧ v ≤ 20))) := by
  refine cx_ofi (cc := cX1_dam) (maxL := 6) (by decide) rfl (Nat.le_of_ble_eq_true rfl) ?_
  intro p e s m args below meth c A Q hx hb hml hown hts hA hK hT H locs hP hD hS fin finx ls hl
  have hown : s.vm.findClass RX1 = some m.cls := hown
  have hl : lv_has ls 6 [(0, .ref g), (1, .int x), (2, .int y), (3, .int v)] := hl
  refine lv_iload_n hx hb dX1_dam_0 rfl (lv_at hl 1 rfl) ?_
  refine lv_iload_n hx hb dX1_dam_1 rfl (lv_at hl 2 rfl) ?_
  refine cx_Si (As := [.int x, .int y]) (rest := []) (wr := [(g, .inr (1, [.ref hn, .ref ha])), (hn, .inr (0, [.ref (adn 0), .ref (adn 1), .ref (adn 2), .ref (adn 3), .ref (adn 4), .ref (adn 5), .ref (adn 6), .int (nI (m_t σ)), .int (m_bro σ), .int (m_drd σ), .int (m_lef σ), .ref (adn 11), .ref (adn 12), .ref (adn 13), .ref (adn 14)])), ((adn 0), .inl (cI, 64, .inl hei)), ((adn 1), .inl (cI, 64, .inl (m_wat σ))), ((adn 2), .inl (cI, 64, .inl (m_dam σ))), ((adn 3), .inl (cI, 64, .inl (m_wea σ))), ((adn 4), .inl (cI, 64, .inl dra)), ((adn 5), .inl (cI, 64, .inl (m_peo σ))), ((adn 6), .inl (cI, 12, .inl rai)), ((adn 11), .inl (cI, 64, .inl cre)), ((adn 12), .inl (cI, 64, .inl gai)), ((adn 13), .inl (cI, 64, .inl see)), ((adn 14), .inl (cI, 64, .inl fou)), (ha, .inr (0, [.ref (ada 0), .ref (ada 1), .ref (ada 2), .ref (ada 3), .ref (ada 4), .ref (ada 5), .ref (ada 6), .int (z 7 0), .int (z 8 0), .int (z 9 0), .int (z 10 0), .ref (ada 11), .ref (ada 12), .ref (ada 13), .ref (ada 14)])), ((ada 0), .inl (cI, 64, .inl (z 0))), ((ada 1), .inl (cI, 64, .inl (z 1))), ((ada 2), .inl (cI, 64, .inl (z 2))), ((ada 3), .inl (cI, 64, .inl (z 3))), ((ada 4), .inl (cI, 64, .inl (z 4))), ((ada 5), .inl (cI, 64, .inl (z 5))), ((ada 6), .inl (cI, 12, .inl (z 6))), ((ada 11), .inl (cI, 64, .inl (z 11))), ((ada 12), .inl (cI, 64, .inl (z 12))), ((ada 13), .inl (cI, 64, .inl (z 13))), ((ada 14), .inl (cI, 64, .inl (z 14)))]) (W1 := fun u => ((gW g hn ha) ++ ((pM hn adn cI hei dra rai σ cre gai see fou) ++ ((pZ ha ada cI z))))) (cells1 := 2) (slots1 := 12) ⟨hx, hb, hml, hown, hts⟩ (c_place l hst D cI sa1 sa2 x y) (va_cwS 2 hts gX1_dam_X1_placeOf rfl rfl rfl (by decide +kernel) ⟨Nat.le_of_ble_eq_true rfl, Nat.le_of_ble_eq_true rfl⟩) hK hP hD hS hA hT [] [0, 1, 2, 3, 4, 5, 6, 7, 8, 9, 10, 11, 12, 13, 14, 15, 16, 17, 18, 19, 20, 21, 22, 23, 24] ⟨rfl, rfl, rfl, rfl, rfl⟩ [0, 1, 2, 3, 4, 5, 6, 7, 8, 9, 10, 11, 12, 13, 14, 15, 16, 17, 18, 19, 20, 21, 22, 23, 24] rfl (fun _ => rfl) [0, 1, 2, 3, 4, 5, 6, 7, 8, 9, 10, 11, 12, 13, 14, 15, 16, 17, 18, 19, 20, 21, 22, 23, 24] rfl rfl [0] rfl rfl hl.1 rfl (Nat.le_of_ble_eq_true rfl) rfl rfl ⟨Nat.le_of_ble_eq_true rfl, Nat.le_of_ble_eq_true rfl⟩ dX1_dam_2 (fun E ce q9 H locs hex hP hD hS hce hcv hcl => finx E ce q9 H locs 2 12 2 ls _ (Or.inl hex) hP hD hS hce hcv hcl (Nat.le_of_ble_eq_true rfl) (Nat.le_of_ble_eq_true rfl)) (fun r u H locs hw hP hD hS => ?_)
  obtain ⟨hin, rfl⟩ := hw
  have hat := q_at_lt hin
  refine lv_istore (lv' := [(4, .int (nI (q_at x y))), (0, .ref g), (1, .int x), (2, .int y), (3, .int v)]) hx hb dX1_dam_5 hl (by decide) rfl (fun ls hl => ?_)
  refine lv_iload_n hx hb dX1_dam_7 rfl (lv_at hl 4 rfl) ?_
  refine lv_iconst (v := 0) hx hb dX1_dam_8 (by decide) ?_
  refine lv_bipush (v := 20) hx hb dX1_dam_9 (by decide) ?_
  refine cx_Sv (As := [.int v, .int 0, .int 20]) (rest := []) (wr := [(g, .inr (1, [.ref hn, .ref ha])), (hn, .inr (0, [.ref (adn 0), .ref (adn 1), .ref (adn 2), .ref (adn 3), .ref (adn 4), .ref (adn 5), .ref (adn 6), .int (nI (m_t σ)), .int (m_bro σ), .int (m_drd σ), .int (m_lef σ), .ref (adn 11), .ref (adn 12), .ref (adn 13), .ref (adn 14)])), ((adn 0), .inl (cI, 64, .inl hei)), ((adn 1), .inl (cI, 64, .inl (m_wat σ))), ((adn 2), .inl (cI, 64, .inl (m_dam σ))), ((adn 3), .inl (cI, 64, .inl (m_wea σ))), ((adn 4), .inl (cI, 64, .inl dra)), ((adn 5), .inl (cI, 64, .inl (m_peo σ))), ((adn 6), .inl (cI, 12, .inl rai)), ((adn 11), .inl (cI, 64, .inl cre)), ((adn 12), .inl (cI, 64, .inl gai)), ((adn 13), .inl (cI, 64, .inl see)), ((adn 14), .inl (cI, 64, .inl fou)), (ha, .inr (0, [.ref (ada 0), .ref (ada 1), .ref (ada 2), .ref (ada 3), .ref (ada 4), .ref (ada 5), .ref (ada 6), .int (z 7 0), .int (z 8 0), .int (z 9 0), .int (z 10 0), .ref (ada 11), .ref (ada 12), .ref (ada 13), .ref (ada 14)])), ((ada 0), .inl (cI, 64, .inl (z 0))), ((ada 1), .inl (cI, 64, .inl (z 1))), ((ada 2), .inl (cI, 64, .inl (z 2))), ((ada 3), .inl (cI, 64, .inl (z 3))), ((ada 4), .inl (cI, 64, .inl (z 4))), ((ada 5), .inl (cI, 64, .inl (z 5))), ((ada 6), .inl (cI, 12, .inl (z 6))), ((ada 11), .inl (cI, 64, .inl (z 11))), ((ada 12), .inl (cI, 64, .inl (z 12))), ((ada 13), .inl (cI, 64, .inl (z 13))), ((ada 14), .inl (cI, 64, .inl (z 14)))]) (W1 := fun u => ((gW g hn ha) ++ ((pM hn adn cI hei dra rai σ cre gai see fou) ++ ((pZ ha ada cI z))))) (cells1 := 3) (slots1 := 18) ⟨hx, hb, hml, hown, hts⟩ (c_reqW l hst D cI sa1 sa2 v 0 20) (va_cwS 3 hts gX1_dam_X1_requireWithin rfl rfl rfl (by decide +kernel) ⟨Nat.le_of_ble_eq_true rfl, Nat.le_of_ble_eq_true rfl⟩) hK hP hD hS hA hT [] [0, 1, 2, 3, 4, 5, 6, 7, 8, 9, 10, 11, 12, 13, 14, 15, 16, 17, 18, 19, 20, 21, 22, 23, 24] ⟨rfl, rfl, rfl, rfl, rfl⟩ [0, 1, 2, 3, 4, 5, 6, 7, 8, 9, 10, 11, 12, 13, 14, 15, 16, 17, 18, 19, 20, 21, 22, 23, 24] rfl (fun _ => rfl) [0, 1, 2, 3, 4, 5, 6, 7, 8, 9, 10, 11, 12, 13, 14, 15, 16, 17, 18, 19, 20, 21, 22, 23, 24] rfl rfl [0] rfl rfl hl.1 rfl (Nat.le_of_ble_eq_true rfl) rfl rfl ⟨Nat.le_of_ble_eq_true rfl, Nat.le_of_ble_eq_true rfl⟩ dX1_dam_11 (fun E ce q9 H locs hex hP hD hS hce hcv hcl => finx E ce q9 H locs 3 18 11 ls _ (Or.inr ⟨hex.1, hin, hex.2⟩) hP hD hS hce hcv hcl (Nat.le_of_ble_eq_true rfl) (Nat.le_of_ble_eq_true rfl)) (fun u H locs hw hP hD hS => ?_)
  have hv := hw
  refine lv_aload_n hx hb dX1_dam_14 rfl (lv_at hl 1 rfl) ?_
  refine va_get (D := D) (ci := 1) (v := .ref hn) (C := RX1) (T := TX1) (N := 2) hx hb hts (fun _ h9 => (List.mem_cons_of_mem _ (List.mem_append_left _ (List.mem_append_left _ (List.mem_append_left _ (List.mem_append_right _ h9)))))) hown hK hP 0 rfl rfl 0 (by decide) (hts (Cond.fieldLink RX1 10 "FloodGrid" "now" "LFloodGrid$Plain;") (List.mem_of_getElem? (i := 1) rfl)) (fun _ h9 => h9) rfl dX1_dam_15 ?_
  refine va_get (D := D) (ci := 0) (v := .ref (adn 2)) (C := RX0) (T := TX0) (N := 15) hx hb hts (fun _ h9 => (List.mem_cons_of_mem _ (List.mem_append_left _ (List.mem_append_left _ (List.mem_append_right _ h9))))) hown hK hP 1 rfl rfl 2 (by decide) (hts (Cond.fieldLink RX1 39 "FloodGrid$Plain" "dam" "[I") (List.mem_of_getElem? (i := 2) rfl)) (fun _ h9 => h9) rfl dX1_dam_18 ?_
  refine lv_iload hx hb dX1_dam_21 (lv_at hl 0 rfl) ?_
  refine ct_iald (v := (m_dam σ) (q_at x y)) hx hb hK hP 4 0 rfl rfl (q_at x y) rfl hat (by decide) rfl dX1_dam_23 ?_
  refine lv_istore (lv' := [(5, .int ((m_dam σ) (q_at x y))), (4, .int (nI (q_at x y))), (0, .ref g), (1, .int x), (2, .int y), (3, .int v)]) hx hb dX1_dam_24 hl (by decide) rfl (fun ls hl => ?_)
  refine lv_aload_n hx hb dX1_dam_26 rfl (lv_at hl 2 rfl) ?_
  refine va_get (D := D) (ci := 1) (v := .ref hn) (C := RX1) (T := TX1) (N := 2) hx hb hts (fun _ h9 => (List.mem_cons_of_mem _ (List.mem_append_left _ (List.mem_append_left _ (List.mem_append_left _ (List.mem_append_right _ h9)))))) hown hK hP 0 rfl rfl 0 (by decide) (hts (Cond.fieldLink RX1 10 "FloodGrid" "now" "LFloodGrid$Plain;") (List.mem_of_getElem? (i := 1) rfl)) (fun _ h9 => h9) rfl dX1_dam_27 ?_
  refine va_get (D := D) (ci := 0) (v := .ref (adn 2)) (C := RX0) (T := TX0) (N := 15) hx hb hts (fun _ h9 => (List.mem_cons_of_mem _ (List.mem_append_left _ (List.mem_append_left _ (List.mem_append_right _ h9))))) hown hK hP 1 rfl rfl 2 (by decide) (hts (Cond.fieldLink RX1 39 "FloodGrid$Plain" "dam" "[I") (List.mem_of_getElem? (i := 2) rfl)) (fun _ h9 => h9) rfl dX1_dam_30 ?_
  refine lv_iload hx hb dX1_dam_33 (lv_at hl 1 rfl) ?_
  refine lv_iload_n hx hb dX1_dam_35 rfl (lv_at hl 5 rfl) ?_
  refine ct_iast (g := upd (m_dam σ) (q_at x y) v) (ws1 := ((gW g hn ha) ++ ((pW hn adn cI hei (m_wat σ) (upd (m_dam σ) (q_at x y) v) (m_wea σ) dra (m_peo σ) rai (nI (m_t σ)) (m_bro σ) (m_drd σ) (m_lef σ) cre gai see fou) ++ ((pZ ha ada cI z))))) hx hb hK hP hD hS 4 0 rfl rfl (q_at x y) rfl hat (by decide) rfl rfl dX1_dam_36 (fun H locs hP hD hS => ?_)
  refine lv_aload_n hx hb dX1_dam_37 rfl (lv_at hl 2 rfl) ?_
  refine va_get (D := D) (ci := 1) (v := .ref hn) (C := RX1) (T := TX1) (N := 2) hx hb hts (fun _ h9 => (List.mem_cons_of_mem _ (List.mem_append_left _ (List.mem_append_left _ (List.mem_append_left _ (List.mem_append_right _ h9)))))) hown hK hP 0 rfl rfl 0 (by decide) (hts (Cond.fieldLink RX1 10 "FloodGrid" "now" "LFloodGrid$Plain;") (List.mem_of_getElem? (i := 1) rfl)) (fun _ h9 => h9) rfl dX1_dam_38 ?_
  refine va_get (D := D) (ci := 0) (v := .ref (adn 3)) (C := RX0) (T := TX0) (N := 15) hx hb hts (fun _ h9 => (List.mem_cons_of_mem _ (List.mem_append_left _ (List.mem_append_left _ (List.mem_append_right _ h9))))) hown hK hP 1 rfl rfl 3 (by decide) (hts (Cond.fieldLink RX1 42 "FloodGrid$Plain" "wear" "[I") (List.mem_of_getElem? (i := 3) rfl)) (fun _ h9 => h9) rfl dX1_dam_41 ?_
  refine lv_iload hx hb dX1_dam_44 (lv_at hl 1 rfl) ?_
  refine lv_iconst (v := 0) hx hb dX1_dam_46 (by decide) ?_
  refine ct_iast (g := upd (m_wea σ) (q_at x y) 0) (ws1 := ((gW g hn ha) ++ ((pW hn adn cI hei (m_wat σ) (upd (m_dam σ) (q_at x y) v) (upd (m_wea σ) (q_at x y) 0) dra (m_peo σ) rai (nI (m_t σ)) (m_bro σ) (m_drd σ) (m_lef σ) cre gai see fou) ++ ((pZ ha ada cI z))))) hx hb hK hP hD hS 5 0 rfl rfl (q_at x y) rfl hat (by decide) rfl rfl dX1_dam_47 (fun H locs hP hD hS => ?_)
  refine lv_iload hx hb dX1_dam_48 (lv_at hl 0 rfl) ?_
  exact fin ((m_dam σ) (q_at x y)) () H locs 3 18 50 ls dX1_dam_50 ⟨hin, hv, rfl⟩ hP hD hS (Nat.le_of_ble_eq_true rfl) (Nat.le_of_ble_eq_true rfl)
abbrev rm_X1_pour : Room := { frames := 8, cells := 3, slots := 18, locals := 133 }
set_option maxHeartbeats 4000000 in
set_option maxRecDepth 100000 in
theorem c_X1_pour (l : Launch) (hst : l.stackTraces = false) (D : va_G) (cI : ClassId) (sa1 sa2 : Nat) (g hn ha : Nat) (adn ada : Nat → Nat) (hei dra rai : Nat → Int32) (σ : Ms) (cre gai see fou : Nat → Int32) (z : Nat → Nat → Int32) (x y v : Int32) : cx_i (S := Unit) l D yX1_pour wsX1_pour rm_X1_pour [.ref g, .int x, .int y, .int v] ((gW g hn ha) ++ ((pM hn adn cI hei dra rai σ cre gai see fou) ++ ((pZ ha ada cI z)))) [(cI, .int)] sa1 sa2 (fun r (_ : Unit) => inC x y ∧ ((-99) ≤ v ∧ v ≤ 99) ∧ r = (i_max 0 (m_wat σ (q_at x y) + v))) (fun _ => (fW g hn ha adn ada cI hei dra rai (upd (m_wat σ) (q_at x y) (i_max 0 (m_wat σ (q_at x y) + v)), m_dam σ, m_wea σ, m_peo σ, m_t σ, m_bro σ, m_drd σ, m_lef σ) cre gai see fou z)) (fun E => (E = "java/lang/IndexOutOfBoundsException" ∧ ¬ inC x y) ∨ (E = "java/lang/IllegalArgumentException" ∧ inC x y ∧ ¬ ((-99) ≤ v ∧ v ≤ 99))) := by
  refine cx_ofi (cc := cX1_pour) (maxL := 5) (by decide) rfl (Nat.le_of_ble_eq_true rfl) ?_
  intro p e s m args below meth c A Q hx hb hml hown hts hA hK hT H locs hP hD hS fin finx ls hl
  have hown : s.vm.findClass RX1 = some m.cls := hown
  have hl : lv_has ls 5 [(0, .ref g), (1, .int x), (2, .int y), (3, .int v)] := hl
  refine lv_iload_n hx hb dX1_pour_0 rfl (lv_at hl 1 rfl) ?_
  refine lv_iload_n hx hb dX1_pour_1 rfl (lv_at hl 2 rfl) ?_
  refine cx_Si (As := [.int x, .int y]) (rest := []) (wr := [(g, .inr (1, [.ref hn, .ref ha])), (hn, .inr (0, [.ref (adn 0), .ref (adn 1), .ref (adn 2), .ref (adn 3), .ref (adn 4), .ref (adn 5), .ref (adn 6), .int (nI (m_t σ)), .int (m_bro σ), .int (m_drd σ), .int (m_lef σ), .ref (adn 11), .ref (adn 12), .ref (adn 13), .ref (adn 14)])), ((adn 0), .inl (cI, 64, .inl hei)), ((adn 1), .inl (cI, 64, .inl (m_wat σ))), ((adn 2), .inl (cI, 64, .inl (m_dam σ))), ((adn 3), .inl (cI, 64, .inl (m_wea σ))), ((adn 4), .inl (cI, 64, .inl dra)), ((adn 5), .inl (cI, 64, .inl (m_peo σ))), ((adn 6), .inl (cI, 12, .inl rai)), ((adn 11), .inl (cI, 64, .inl cre)), ((adn 12), .inl (cI, 64, .inl gai)), ((adn 13), .inl (cI, 64, .inl see)), ((adn 14), .inl (cI, 64, .inl fou)), (ha, .inr (0, [.ref (ada 0), .ref (ada 1), .ref (ada 2), .ref (ada 3), .ref (ada 4), .ref (ada 5), .ref (ada 6), .int (z 7 0), .int (z 8 0), .int (z 9 0), .int (z 10 0), .ref (ada 11), .ref (ada 12), .ref (ada 13), .ref (ada 14)])), ((ada 0), .inl (cI, 64, .inl (z 0))), ((ada 1), .inl (cI, 64, .inl (z 1))), ((ada 2), .inl (cI, 64, .inl (z 2))), ((ada 3), .inl (cI, 64, .inl (z 3))), ((ada 4), .inl (cI, 64, .inl (z 4))), ((ada 5), .inl (cI, 64, .inl (z 5))), ((ada 6), .inl (cI, 12, .inl (z 6))), ((ada 11), .inl (cI, 64, .inl (z 11))), ((ada 12), .inl (cI, 64, .inl (z 12))), ((ada 13), .inl (cI, 64, .inl (z 13))), ((ada 14), .inl (cI, 64, .inl (z 14)))]) (W1 := fun u => ((gW g hn ha) ++ ((pM hn adn cI hei dra rai σ cre gai see fou) ++ ((pZ ha ada cI z))))) (cells1 := 2) (slots1 := 12) ⟨hx, hb, hml, hown, hts⟩ (c_place l hst D cI sa1 sa2 x y) (va_cwS 2 hts gX1_pour_X1_placeOf rfl rfl rfl (by decide +kernel) ⟨Nat.le_of_ble_eq_true rfl, Nat.le_of_ble_eq_true rfl⟩) hK hP hD hS hA hT [] [0, 1, 2, 3, 4, 5, 6, 7, 8, 9, 10, 11, 12, 13, 14, 15, 16, 17, 18, 19, 20, 21, 22, 23, 24] ⟨rfl, rfl, rfl, rfl, rfl⟩ [0, 1, 2, 3, 4, 5, 6, 7, 8, 9, 10, 11, 12, 13, 14, 15, 16, 17, 18, 19, 20, 21, 22, 23, 24] rfl (fun _ => rfl) [0, 1, 2, 3, 4, 5, 6, 7, 8, 9, 10, 11, 12, 13, 14, 15, 16, 17, 18, 19, 20, 21, 22, 23, 24] rfl rfl [0] rfl rfl hl.1 rfl (Nat.le_of_ble_eq_true rfl) rfl rfl ⟨Nat.le_of_ble_eq_true rfl, Nat.le_of_ble_eq_true rfl⟩ dX1_pour_2 (fun E ce q9 H locs hex hP hD hS hce hcv hcl => finx E ce q9 H locs 2 12 2 ls _ (Or.inl hex) hP hD hS hce hcv hcl (Nat.le_of_ble_eq_true rfl) (Nat.le_of_ble_eq_true rfl)) (fun r u H locs hw hP hD hS => ?_)
  obtain ⟨hin, rfl⟩ := hw
  have hat := q_at_lt hin
  refine lv_istore (lv' := [(4, .int (nI (q_at x y))), (0, .ref g), (1, .int x), (2, .int y), (3, .int v)]) hx hb dX1_pour_5 hl (by decide) rfl (fun ls hl => ?_)
  refine lv_iload_n hx hb dX1_pour_7 rfl (lv_at hl 4 rfl) ?_
  refine lv_bipush (v := (-99)) hx hb dX1_pour_8 (by decide) ?_
  refine lv_bipush (v := 99) hx hb dX1_pour_10 (by decide) ?_
  refine cx_Sv (As := [.int v, .int (-99), .int 99]) (rest := []) (wr := [(g, .inr (1, [.ref hn, .ref ha])), (hn, .inr (0, [.ref (adn 0), .ref (adn 1), .ref (adn 2), .ref (adn 3), .ref (adn 4), .ref (adn 5), .ref (adn 6), .int (nI (m_t σ)), .int (m_bro σ), .int (m_drd σ), .int (m_lef σ), .ref (adn 11), .ref (adn 12), .ref (adn 13), .ref (adn 14)])), ((adn 0), .inl (cI, 64, .inl hei)), ((adn 1), .inl (cI, 64, .inl (m_wat σ))), ((adn 2), .inl (cI, 64, .inl (m_dam σ))), ((adn 3), .inl (cI, 64, .inl (m_wea σ))), ((adn 4), .inl (cI, 64, .inl dra)), ((adn 5), .inl (cI, 64, .inl (m_peo σ))), ((adn 6), .inl (cI, 12, .inl rai)), ((adn 11), .inl (cI, 64, .inl cre)), ((adn 12), .inl (cI, 64, .inl gai)), ((adn 13), .inl (cI, 64, .inl see)), ((adn 14), .inl (cI, 64, .inl fou)), (ha, .inr (0, [.ref (ada 0), .ref (ada 1), .ref (ada 2), .ref (ada 3), .ref (ada 4), .ref (ada 5), .ref (ada 6), .int (z 7 0), .int (z 8 0), .int (z 9 0), .int (z 10 0), .ref (ada 11), .ref (ada 12), .ref (ada 13), .ref (ada 14)])), ((ada 0), .inl (cI, 64, .inl (z 0))), ((ada 1), .inl (cI, 64, .inl (z 1))), ((ada 2), .inl (cI, 64, .inl (z 2))), ((ada 3), .inl (cI, 64, .inl (z 3))), ((ada 4), .inl (cI, 64, .inl (z 4))), ((ada 5), .inl (cI, 64, .inl (z 5))), ((ada 6), .inl (cI, 12, .inl (z 6))), ((ada 11), .inl (cI, 64, .inl (z 11))), ((ada 12), .inl (cI, 64, .inl (z 12))), ((ada 13), .inl (cI, 64, .inl (z 13))), ((ada 14), .inl (cI, 64, .inl (z 14)))]) (W1 := fun u => ((gW g hn ha) ++ ((pM hn adn cI hei dra rai σ cre gai see fou) ++ ((pZ ha ada cI z))))) (cells1 := 3) (slots1 := 18) ⟨hx, hb, hml, hown, hts⟩ (c_reqW l hst D cI sa1 sa2 v (-99) 99) (va_cwS 3 hts gX1_pour_X1_requireWithin rfl rfl rfl (by decide +kernel) ⟨Nat.le_of_ble_eq_true rfl, Nat.le_of_ble_eq_true rfl⟩) hK hP hD hS hA hT [] [0, 1, 2, 3, 4, 5, 6, 7, 8, 9, 10, 11, 12, 13, 14, 15, 16, 17, 18, 19, 20, 21, 22, 23, 24] ⟨rfl, rfl, rfl, rfl, rfl⟩ [0, 1, 2, 3, 4, 5, 6, 7, 8, 9, 10, 11, 12, 13, 14, 15, 16, 17, 18, 19, 20, 21, 22, 23, 24] rfl (fun _ => rfl) [0, 1, 2, 3, 4, 5, 6, 7, 8, 9, 10, 11, 12, 13, 14, 15, 16, 17, 18, 19, 20, 21, 22, 23, 24] rfl rfl [0] rfl rfl hl.1 rfl (Nat.le_of_ble_eq_true rfl) rfl rfl ⟨Nat.le_of_ble_eq_true rfl, Nat.le_of_ble_eq_true rfl⟩ dX1_pour_12 (fun E ce q9 H locs hex hP hD hS hce hcv hcl => finx E ce q9 H locs 3 18 12 ls _ (Or.inr ⟨hex.1, hin, hex.2⟩) hP hD hS hce hcv hcl (Nat.le_of_ble_eq_true rfl) (Nat.le_of_ble_eq_true rfl)) (fun u H locs hw hP hD hS => ?_)
  have hv := hw
  refine lv_aload_n hx hb dX1_pour_15 rfl (lv_at hl 1 rfl) ?_
  refine va_get (D := D) (ci := 1) (v := .ref hn) (C := RX1) (T := TX1) (N := 2) hx hb hts (fun _ h9 => (List.mem_cons_of_mem _ (List.mem_append_left _ (List.mem_append_left _ (List.mem_append_left _ (List.mem_append_right _ h9)))))) hown hK hP 0 rfl rfl 0 (by decide) (hts (Cond.fieldLink RX1 10 "FloodGrid" "now" "LFloodGrid$Plain;") (List.mem_of_getElem? (i := 1) rfl)) (fun _ h9 => h9) rfl dX1_pour_16 ?_
  refine va_get (D := D) (ci := 0) (v := .ref (adn 1)) (C := RX0) (T := TX0) (N := 15) hx hb hts (fun _ h9 => (List.mem_cons_of_mem _ (List.mem_append_left _ (List.mem_append_left _ (List.mem_append_right _ h9))))) hown hK hP 1 rfl rfl 1 (by decide) (hts (Cond.fieldLink RX1 31 "FloodGrid$Plain" "water" "[I") (List.mem_of_getElem? (i := 2) rfl)) (fun _ h9 => h9) rfl dX1_pour_19 ?_
  refine lv_iload hx hb dX1_pour_22 (lv_at hl 0 rfl) ?_
  refine lv_iconst (v := 0) hx hb dX1_pour_24 (by decide) ?_
  refine lv_aload_n hx hb dX1_pour_25 rfl (lv_at hl 1 rfl) ?_
  refine va_get (D := D) (ci := 1) (v := .ref hn) (C := RX1) (T := TX1) (N := 2) hx hb hts (fun _ h9 => (List.mem_cons_of_mem _ (List.mem_append_left _ (List.mem_append_left _ (List.mem_append_left _ (List.mem_append_right _ h9)))))) hown hK hP 0 rfl rfl 0 (by decide) (hts (Cond.fieldLink RX1 10 "FloodGrid" "now" "LFloodGrid$Plain;") (List.mem_of_getElem? (i := 1) rfl)) (fun _ h9 => h9) rfl dX1_pour_26 ?_
  refine va_get (D := D) (ci := 0) (v := .ref (adn 1)) (C := RX0) (T := TX0) (N := 15) hx hb hts (fun _ h9 => (List.mem_cons_of_mem _ (List.mem_append_left _ (List.mem_append_left _ (List.mem_append_right _ h9))))) hown hK hP 1 rfl rfl 1 (by decide) (hts (Cond.fieldLink RX1 31 "FloodGrid$Plain" "water" "[I") (List.mem_of_getElem? (i := 2) rfl)) (fun _ h9 => h9) rfl dX1_pour_29 ?_
  refine lv_iload hx hb dX1_pour_32 (lv_at hl 0 rfl) ?_
  refine ct_iald (v := (m_wat σ) (q_at x y)) hx hb hK hP 3 0 rfl rfl (q_at x y) rfl hat (by decide) rfl dX1_pour_34 ?_
  refine lv_iload_n hx hb dX1_pour_35 rfl (lv_at hl 4 rfl) ?_
  refine lv_iadd hx hb dX1_pour_36 ?_
  refine ct_mmax (v := (i_max 0 (m_wat σ (q_at x y) + v))) hx hb (hml.trans hl.1.symm) hown (hts (Cond.methodLink RX1 34 Lib.Math.max.name) (List.mem_of_getElem? (i := 3) rfl)) (hts (Cond.static Lib.Math.max.name) (List.mem_of_getElem? (i := 4) rfl)) (hts (Cond.initialized "java/lang/Math") (List.mem_of_getElem? (i := 5) rfl)) (hts (Cond.code Lib.Math.max.name Lib.Math.max.code 2 (some .int)) (List.mem_of_getElem? (i := 6) rfl)) (Nat.le_of_ble_eq_true rfl) (Nat.le_of_ble_eq_true rfl) (Nat.le_of_ble_eq_true rfl) (Nat.le_of_ble_eq_true rfl) rfl dX1_pour_37 ?_
  refine ct_iast (g := upd (m_wat σ) (q_at x y) (i_max 0 (m_wat σ (q_at x y) + v))) (ws1 := ((gW g hn ha) ++ ((pW hn adn cI hei (upd (m_wat σ) (q_at x y) (i_max 0 (m_wat σ (q_at x y) + v))) (m_dam σ) (m_wea σ) dra (m_peo σ) rai (nI (m_t σ)) (m_bro σ) (m_drd σ) (m_lef σ) cre gai see fou) ++ ((pZ ha ada cI z))))) hx hb hK hP hD hS 3 0 rfl rfl (q_at x y) rfl hat (by decide) rfl rfl dX1_pour_40 (fun H locs hP hD hS => ?_)
  refine lv_aload_n hx hb dX1_pour_41 rfl (lv_at hl 1 rfl) ?_
  refine va_get (D := D) (ci := 1) (v := .ref hn) (C := RX1) (T := TX1) (N := 2) hx hb hts (fun _ h9 => (List.mem_cons_of_mem _ (List.mem_append_left _ (List.mem_append_left _ (List.mem_append_left _ (List.mem_append_right _ h9)))))) hown hK hP 0 rfl rfl 0 (by decide) (hts (Cond.fieldLink RX1 10 "FloodGrid" "now" "LFloodGrid$Plain;") (List.mem_of_getElem? (i := 1) rfl)) (fun _ h9 => h9) rfl dX1_pour_42 ?_
  refine va_get (D := D) (ci := 0) (v := .ref (adn 1)) (C := RX0) (T := TX0) (N := 15) hx hb hts (fun _ h9 => (List.mem_cons_of_mem _ (List.mem_append_left _ (List.mem_append_left _ (List.mem_append_right _ h9))))) hown hK hP 1 rfl rfl 1 (by decide) (hts (Cond.fieldLink RX1 31 "FloodGrid$Plain" "water" "[I") (List.mem_of_getElem? (i := 2) rfl)) (fun _ h9 => h9) rfl dX1_pour_45 ?_
  refine lv_iload hx hb dX1_pour_48 (lv_at hl 0 rfl) ?_
  refine ct_iald (v := (upd (m_wat σ) (q_at x y) (i_max 0 (m_wat σ (q_at x y) + v))) (q_at x y)) hx hb hK hP 3 0 rfl rfl (q_at x y) rfl hat (by decide) rfl dX1_pour_50 ?_
  exact fin ((upd (m_wat σ) (q_at x y) (i_max 0 (m_wat σ (q_at x y) + v))) (q_at x y)) () H locs 3 18 51 ls dX1_pour_51 ⟨hin, hv, (by exact pk_us)⟩ hP hD hS (Nat.le_of_ble_eq_true rfl) (Nat.le_of_ble_eq_true rfl)
abbrev rm_X1_setRain : Room := { frames := 7, cells := 2, slots := 12, locals := 112 }
set_option maxHeartbeats 4000000 in
set_option maxRecDepth 100000 in
theorem c_X1_setRain (l : Launch) (hst : l.stackTraces = false) (D : va_G) (cI : ClassId) (sa1 sa2 : Nat) (g hn ha : Nat) (adn ada : Nat → Nat) (hei dra rai : Nat → Int32) (σ : Ms) (cre gai see fou : Nat → Int32) (z : Nat → Nat → Int32) (x v : Int32) : cx_i (S := Unit) l D yX1_setRain wsX1_setRain rm_X1_setRain [.ref g, .int x, .int v] ((gW g hn ha) ++ ((pM hn adn cI hei dra rai σ cre gai see fou) ++ ((pZ ha ada cI z)))) [(cI, .int)] sa1 sa2 (fun r (_ : Unit) => (0 ≤ x ∧ x ≤ 11) ∧ (0 ≤ v ∧ v ≤ 9) ∧ r = rai x.toNatClampNeg) (fun _ => (fW g hn ha adn ada cI hei dra (upd rai x.toNatClampNeg v) σ cre gai see fou z)) (fun E => (E = "java/lang/IndexOutOfBoundsException" ∧ ¬ (0 ≤ x ∧ x ≤ 11)) ∨ (E = "java/lang/IllegalArgumentException" ∧ (0 ≤ x ∧ x ≤ 11) ∧ ¬ (0 ≤ v ∧ v ≤ 9))) := by
  refine cx_ofi (cc := cX1_setRain) (maxL := 4) (by decide) rfl (Nat.le_of_ble_eq_true rfl) ?_
  intro p e s m args below meth c A Q hx hb hml hown hts hA hK hT H locs hP hD hS fin finx ls hl
  have hown : s.vm.findClass RX1 = some m.cls := hown
  have hl : lv_has ls 4 [(0, .ref g), (1, .int x), (2, .int v)] := hl
  refine lv_iload_n hx hb dX1_setRain_0 rfl (lv_at hl 1 rfl) ?_
  refine lv_iconst (v := 0) hx hb dX1_setRain_1 (by decide) ?_
  refine lv_bipush (v := 11) hx hb dX1_setRain_2 (by decide) ?_
  refine cx_Sv (As := [.int x, .int 0, .int 11]) (rest := []) (wr := [(g, .inr (1, [.ref hn, .ref ha])), (hn, .inr (0, [.ref (adn 0), .ref (adn 1), .ref (adn 2), .ref (adn 3), .ref (adn 4), .ref (adn 5), .ref (adn 6), .int (nI (m_t σ)), .int (m_bro σ), .int (m_drd σ), .int (m_lef σ), .ref (adn 11), .ref (adn 12), .ref (adn 13), .ref (adn 14)])), ((adn 0), .inl (cI, 64, .inl hei)), ((adn 1), .inl (cI, 64, .inl (m_wat σ))), ((adn 2), .inl (cI, 64, .inl (m_dam σ))), ((adn 3), .inl (cI, 64, .inl (m_wea σ))), ((adn 4), .inl (cI, 64, .inl dra)), ((adn 5), .inl (cI, 64, .inl (m_peo σ))), ((adn 6), .inl (cI, 12, .inl rai)), ((adn 11), .inl (cI, 64, .inl cre)), ((adn 12), .inl (cI, 64, .inl gai)), ((adn 13), .inl (cI, 64, .inl see)), ((adn 14), .inl (cI, 64, .inl fou)), (ha, .inr (0, [.ref (ada 0), .ref (ada 1), .ref (ada 2), .ref (ada 3), .ref (ada 4), .ref (ada 5), .ref (ada 6), .int (z 7 0), .int (z 8 0), .int (z 9 0), .int (z 10 0), .ref (ada 11), .ref (ada 12), .ref (ada 13), .ref (ada 14)])), ((ada 0), .inl (cI, 64, .inl (z 0))), ((ada 1), .inl (cI, 64, .inl (z 1))), ((ada 2), .inl (cI, 64, .inl (z 2))), ((ada 3), .inl (cI, 64, .inl (z 3))), ((ada 4), .inl (cI, 64, .inl (z 4))), ((ada 5), .inl (cI, 64, .inl (z 5))), ((ada 6), .inl (cI, 12, .inl (z 6))), ((ada 11), .inl (cI, 64, .inl (z 11))), ((ada 12), .inl (cI, 64, .inl (z 12))), ((ada 13), .inl (cI, 64, .inl (z 13))), ((ada 14), .inl (cI, 64, .inl (z 14)))]) (W1 := fun u => ((gW g hn ha) ++ ((pM hn adn cI hei dra rai σ cre gai see fou) ++ ((pZ ha ada cI z))))) (cells1 := 1) (slots1 := 6) ⟨hx, hb, hml, hown, hts⟩ (c_reqI l hst D cI sa1 sa2 x 0 11) (va_cwS 3 hts gX1_setRain_X1_requireIndex rfl rfl rfl (by decide +kernel) ⟨Nat.le_of_ble_eq_true rfl, Nat.le_of_ble_eq_true rfl⟩) hK hP hD hS hA hT [] [0, 1, 2, 3, 4, 5, 6, 7, 8, 9, 10, 11, 12, 13, 14, 15, 16, 17, 18, 19, 20, 21, 22, 23, 24] ⟨rfl, rfl, rfl, rfl, rfl⟩ [0, 1, 2, 3, 4, 5, 6, 7, 8, 9, 10, 11, 12, 13, 14, 15, 16, 17, 18, 19, 20, 21, 22, 23, 24] rfl (fun _ => rfl) [0, 1, 2, 3, 4, 5, 6, 7, 8, 9, 10, 11, 12, 13, 14, 15, 16, 17, 18, 19, 20, 21, 22, 23, 24] rfl rfl [0] rfl rfl hl.1 rfl (Nat.le_of_ble_eq_true rfl) rfl rfl ⟨Nat.le_of_ble_eq_true rfl, Nat.le_of_ble_eq_true rfl⟩ dX1_setRain_4 (fun E ce q9 H locs hex hP hD hS hce hcv hcl => finx E ce q9 H locs 1 6 4 ls _ (Or.inl hex) hP hD hS hce hcv hcl (Nat.le_of_ble_eq_true rfl) (Nat.le_of_ble_eq_true rfl)) (fun u H locs hw hP hD hS => ?_)
  have hx1 := hw
  refine lv_iload_n hx hb dX1_setRain_7 rfl (lv_at hl 2 rfl) ?_
  refine lv_iconst (v := 0) hx hb dX1_setRain_8 (by decide) ?_
  refine lv_bipush (v := 9) hx hb dX1_setRain_9 (by decide) ?_
  refine cx_Sv (As := [.int v, .int 0, .int 9]) (rest := []) (wr := [(g, .inr (1, [.ref hn, .ref ha])), (hn, .inr (0, [.ref (adn 0), .ref (adn 1), .ref (adn 2), .ref (adn 3), .ref (adn 4), .ref (adn 5), .ref (adn 6), .int (nI (m_t σ)), .int (m_bro σ), .int (m_drd σ), .int (m_lef σ), .ref (adn 11), .ref (adn 12), .ref (adn 13), .ref (adn 14)])), ((adn 0), .inl (cI, 64, .inl hei)), ((adn 1), .inl (cI, 64, .inl (m_wat σ))), ((adn 2), .inl (cI, 64, .inl (m_dam σ))), ((adn 3), .inl (cI, 64, .inl (m_wea σ))), ((adn 4), .inl (cI, 64, .inl dra)), ((adn 5), .inl (cI, 64, .inl (m_peo σ))), ((adn 6), .inl (cI, 12, .inl rai)), ((adn 11), .inl (cI, 64, .inl cre)), ((adn 12), .inl (cI, 64, .inl gai)), ((adn 13), .inl (cI, 64, .inl see)), ((adn 14), .inl (cI, 64, .inl fou)), (ha, .inr (0, [.ref (ada 0), .ref (ada 1), .ref (ada 2), .ref (ada 3), .ref (ada 4), .ref (ada 5), .ref (ada 6), .int (z 7 0), .int (z 8 0), .int (z 9 0), .int (z 10 0), .ref (ada 11), .ref (ada 12), .ref (ada 13), .ref (ada 14)])), ((ada 0), .inl (cI, 64, .inl (z 0))), ((ada 1), .inl (cI, 64, .inl (z 1))), ((ada 2), .inl (cI, 64, .inl (z 2))), ((ada 3), .inl (cI, 64, .inl (z 3))), ((ada 4), .inl (cI, 64, .inl (z 4))), ((ada 5), .inl (cI, 64, .inl (z 5))), ((ada 6), .inl (cI, 12, .inl (z 6))), ((ada 11), .inl (cI, 64, .inl (z 11))), ((ada 12), .inl (cI, 64, .inl (z 12))), ((ada 13), .inl (cI, 64, .inl (z 13))), ((ada 14), .inl (cI, 64, .inl (z 14)))]) (W1 := fun u => ((gW g hn ha) ++ ((pM hn adn cI hei dra rai σ cre gai see fou) ++ ((pZ ha ada cI z))))) (cells1 := 2) (slots1 := 12) ⟨hx, hb, hml, hown, hts⟩ (c_reqW l hst D cI sa1 sa2 v 0 9) (va_cwS 3 hts gX1_setRain_X1_requireWithin rfl rfl rfl (by decide +kernel) ⟨Nat.le_of_ble_eq_true rfl, Nat.le_of_ble_eq_true rfl⟩) hK hP hD hS hA hT [] [0, 1, 2, 3, 4, 5, 6, 7, 8, 9, 10, 11, 12, 13, 14, 15, 16, 17, 18, 19, 20, 21, 22, 23, 24] ⟨rfl, rfl, rfl, rfl, rfl⟩ [0, 1, 2, 3, 4, 5, 6, 7, 8, 9, 10, 11, 12, 13, 14, 15, 16, 17, 18, 19, 20, 21, 22, 23, 24] rfl (fun _ => rfl) [0, 1, 2, 3, 4, 5, 6, 7, 8, 9, 10, 11, 12, 13, 14, 15, 16, 17, 18, 19, 20, 21, 22, 23, 24] rfl rfl [0] rfl rfl hl.1 rfl (Nat.le_of_ble_eq_true rfl) rfl rfl ⟨Nat.le_of_ble_eq_true rfl, Nat.le_of_ble_eq_true rfl⟩ dX1_setRain_11 (fun E ce q9 H locs hex hP hD hS hce hcv hcl => finx E ce q9 H locs 2 12 11 ls _ (Or.inr ⟨hex.1, hx1, hex.2⟩) hP hD hS hce hcv hcl (Nat.le_of_ble_eq_true rfl) (Nat.le_of_ble_eq_true rfl)) (fun u H locs hw hP hD hS => ?_)
  have hv := hw
  have h11 := q_n7 hx1.1 (n := 11) rfl (by decide) hx1.2
  refine lv_aload_n hx hb dX1_setRain_14 rfl (lv_at hl 0 rfl) ?_
  refine va_get (D := D) (ci := 1) (v := .ref hn) (C := RX1) (T := TX1) (N := 2) hx hb hts (fun _ h9 => (List.mem_cons_of_mem _ (List.mem_append_left _ (List.mem_append_left _ (List.mem_append_left _ (List.mem_append_right _ h9)))))) hown hK hP 0 rfl rfl 0 (by decide) (hts (Cond.fieldLink RX1 10 "FloodGrid" "now" "LFloodGrid$Plain;") (List.mem_of_getElem? (i := 1) rfl)) (fun _ h9 => h9) rfl dX1_setRain_15 ?_
  refine va_get (D := D) (ci := 0) (v := .ref (adn 6)) (C := RX0) (T := TX0) (N := 15) hx hb hts (fun _ h9 => (List.mem_cons_of_mem _ (List.mem_append_left _ (List.mem_append_left _ (List.mem_append_right _ h9))))) hown hK hP 1 rfl rfl 6 (by decide) (hts (Cond.fieldLink RX1 54 "FloodGrid$Plain" "rain" "[I") (List.mem_of_getElem? (i := 2) rfl)) (fun _ h9 => h9) rfl dX1_setRain_18 ?_
  refine lv_iload_n hx hb dX1_setRain_21 rfl (lv_at hl 1 rfl) ?_
  refine ct_iald (v := rai x.toNatClampNeg) hx hb hK hP 8 0 rfl rfl x.toNatClampNeg h11.1 (Nat.lt_succ_of_le h11.2) (by decide) rfl dX1_setRain_22 ?_
  refine lv_istore_n (lv' := [(3, .int (rai x.toNatClampNeg)), (0, .ref g), (1, .int x), (2, .int v)]) hx hb dX1_setRain_23 rfl hl (by decide) rfl (fun ls hl => ?_)
  refine lv_aload_n hx hb dX1_setRain_24 rfl (lv_at hl 1 rfl) ?_
  refine va_get (D := D) (ci := 1) (v := .ref hn) (C := RX1) (T := TX1) (N := 2) hx hb hts (fun _ h9 => (List.mem_cons_of_mem _ (List.mem_append_left _ (List.mem_append_left _ (List.mem_append_left _ (List.mem_append_right _ h9)))))) hown hK hP 0 rfl rfl 0 (by decide) (hts (Cond.fieldLink RX1 10 "FloodGrid" "now" "LFloodGrid$Plain;") (List.mem_of_getElem? (i := 1) rfl)) (fun _ h9 => h9) rfl dX1_setRain_25 ?_
  refine va_get (D := D) (ci := 0) (v := .ref (adn 6)) (C := RX0) (T := TX0) (N := 15) hx hb hts (fun _ h9 => (List.mem_cons_of_mem _ (List.mem_append_left _ (List.mem_append_left _ (List.mem_append_right _ h9))))) hown hK hP 1 rfl rfl 6 (by decide) (hts (Cond.fieldLink RX1 54 "FloodGrid$Plain" "rain" "[I") (List.mem_of_getElem? (i := 2) rfl)) (fun _ h9 => h9) rfl dX1_setRain_28 ?_
  refine lv_iload_n hx hb dX1_setRain_31 rfl (lv_at hl 2 rfl) ?_
  refine lv_iload_n hx hb dX1_setRain_32 rfl (lv_at hl 3 rfl) ?_
  refine ct_iast (g := upd rai x.toNatClampNeg v) (ws1 := ((gW g hn ha) ++ ((pM hn adn cI hei dra (upd rai x.toNatClampNeg v) σ cre gai see fou) ++ ((pZ ha ada cI z))))) hx hb hK hP hD hS 8 0 rfl rfl x.toNatClampNeg h11.1 (Nat.lt_succ_of_le h11.2) (by decide) rfl rfl dX1_setRain_33 (fun H locs hP hD hS => ?_)
  refine lv_iload_n hx hb dX1_setRain_34 rfl (lv_at hl 0 rfl) ?_
  exact fin (rai x.toNatClampNeg) () H locs 2 12 35 ls dX1_setRain_35 ⟨hx1, hv, rfl⟩ hP hD hS (Nat.le_of_ble_eq_true rfl) (Nat.le_of_ble_eq_true rfl)
end
section
abbrev rm_X1_cell : Room := { frames := 8, cells := 3, slots := 18, locals := 133 }
set_option maxHeartbeats 4000000 in
set_option maxRecDepth 100000 in
theorem c_X1_cell (l : Launch) (hst : l.stackTraces = false) (D : va_G) (cI : ClassId) (sa1 sa2 : Nat) (g hn ha : Nat) (adn ada : Nat → Nat) (hei dra rai : Nat → Int32) (σ : Ms) (cre gai see fou : Nat → Int32) (z : Nat → Nat → Int32) (x y v : Int32) : cx_i (S := Unit) l D yX1_cell wsX1_cell rm_X1_cell [.ref g, .int x, .int y, .int v] ((gW g hn ha) ++ ((pM hn adn cI hei dra rai σ cre gai see fou) ++ ((pZ ha ada cI z)))) [(cI, .int)] sa1 sa2 (fun r (_ : Unit) => inC x y ∧ (0 ≤ v ∧ v ≤ 7) ∧ r = q_cell hei (m_wat σ) (m_dam σ) (m_wea σ) dra (m_peo σ) (q_at x y) v.toNatClampNeg) (fun _ => (fW g hn ha adn ada cI hei dra rai σ cre gai see fou z)) (fun E => E = "java/lang/IndexOutOfBoundsException" ∧ ¬ (inC x y ∧ (0 ≤ v ∧ v ≤ 7))) := by
  refine cx_ofi (cc := cX1_cell) (maxL := 5) (by decide) rfl (Nat.le_of_ble_eq_true rfl) ?_
  intro p e s m args below meth c A Q hx hb hml hown hts hA hK hT H locs hP hD hS fin finx ls hl
  have hown : s.vm.findClass RX1 = some m.cls := hown
  have hl : lv_has ls 5 [(0, .ref g), (1, .int x), (2, .int y), (3, .int v)] := hl
  refine lv_iload_n hx hb dX1_cell_0 rfl (lv_at hl 1 rfl) ?_
  refine lv_iload_n hx hb dX1_cell_1 rfl (lv_at hl 2 rfl) ?_
  refine cx_Si (As := [.int x, .int y]) (rest := []) (wr := [(g, .inr (1, [.ref hn, .ref ha])), (hn, .inr (0, [.ref (adn 0), .ref (adn 1), .ref (adn 2), .ref (adn 3), .ref (adn 4), .ref (adn 5), .ref (adn 6), .int (nI (m_t σ)), .int (m_bro σ), .int (m_drd σ), .int (m_lef σ), .ref (adn 11), .ref (adn 12), .ref (adn 13), .ref (adn 14)])), ((adn 0), .inl (cI, 64, .inl hei)), ((adn 1), .inl (cI, 64, .inl (m_wat σ))), ((adn 2), .inl (cI, 64, .inl (m_dam σ))), ((adn 3), .inl (cI, 64, .inl (m_wea σ))), ((adn 4), .inl (cI, 64, .inl dra)), ((adn 5), .inl (cI, 64, .inl (m_peo σ))), ((adn 6), .inl (cI, 12, .inl rai)), ((adn 11), .inl (cI, 64, .inl cre)), ((adn 12), .inl (cI, 64, .inl gai)), ((adn 13), .inl (cI, 64, .inl see)), ((adn 14), .inl (cI, 64, .inl fou)), (ha, .inr (0, [.ref (ada 0), .ref (ada 1), .ref (ada 2), .ref (ada 3), .ref (ada 4), .ref (ada 5), .ref (ada 6), .int (z 7 0), .int (z 8 0), .int (z 9 0), .int (z 10 0), .ref (ada 11), .ref (ada 12), .ref (ada 13), .ref (ada 14)])), ((ada 0), .inl (cI, 64, .inl (z 0))), ((ada 1), .inl (cI, 64, .inl (z 1))), ((ada 2), .inl (cI, 64, .inl (z 2))), ((ada 3), .inl (cI, 64, .inl (z 3))), ((ada 4), .inl (cI, 64, .inl (z 4))), ((ada 5), .inl (cI, 64, .inl (z 5))), ((ada 6), .inl (cI, 12, .inl (z 6))), ((ada 11), .inl (cI, 64, .inl (z 11))), ((ada 12), .inl (cI, 64, .inl (z 12))), ((ada 13), .inl (cI, 64, .inl (z 13))), ((ada 14), .inl (cI, 64, .inl (z 14)))]) (W1 := fun u => ((gW g hn ha) ++ ((pM hn adn cI hei dra rai σ cre gai see fou) ++ ((pZ ha ada cI z))))) (cells1 := 2) (slots1 := 12) ⟨hx, hb, hml, hown, hts⟩ (c_place l hst D cI sa1 sa2 x y) (va_cwS 2 hts gX1_cell_X1_placeOf rfl rfl rfl (by decide +kernel) ⟨Nat.le_of_ble_eq_true rfl, Nat.le_of_ble_eq_true rfl⟩) hK hP hD hS hA hT [] [0, 1, 2, 3, 4, 5, 6, 7, 8, 9, 10, 11, 12, 13, 14, 15, 16, 17, 18, 19, 20, 21, 22, 23, 24] ⟨rfl, rfl, rfl, rfl, rfl⟩ [0, 1, 2, 3, 4, 5, 6, 7, 8, 9, 10, 11, 12, 13, 14, 15, 16, 17, 18, 19, 20, 21, 22, 23, 24] rfl (fun _ => rfl) [0, 1, 2, 3, 4, 5, 6, 7, 8, 9, 10, 11, 12, 13, 14, 15, 16, 17, 18, 19, 20, 21, 22, 23, 24] rfl rfl [0] rfl rfl hl.1 rfl (Nat.le_of_ble_eq_true rfl) rfl rfl ⟨Nat.le_of_ble_eq_true rfl, Nat.le_of_ble_eq_true rfl⟩ dX1_cell_2 (fun E ce q9 H locs hex hP hD hS hce hcv hcl => finx E ce q9 H locs 2 12 2 ls _ (⟨hex.1, fun z => hex.2 z.1⟩) hP hD hS hce hcv hcl (Nat.le_of_ble_eq_true rfl) (Nat.le_of_ble_eq_true rfl)) (fun r u H locs hw hP hD hS => ?_)
  obtain ⟨hin, rfl⟩ := hw
  have hat := q_at_lt hin
  refine lv_istore (lv' := [(4, .int (nI (q_at x y))), (0, .ref g), (1, .int x), (2, .int y), (3, .int v)]) hx hb dX1_cell_5 hl (by decide) rfl (fun ls hl => ?_)
  refine lv_iload_n hx hb dX1_cell_7 rfl (lv_at hl 4 rfl) ?_
  refine lv_iconst (v := 0) hx hb dX1_cell_8 (by decide) ?_
  refine lv_bipush (v := 7) hx hb dX1_cell_9 (by decide) ?_
  refine cx_Sv (As := [.int v, .int 0, .int 7]) (rest := []) (wr := [(g, .inr (1, [.ref hn, .ref ha])), (hn, .inr (0, [.ref (adn 0), .ref (adn 1), .ref (adn 2), .ref (adn 3), .ref (adn 4), .ref (adn 5), .ref (adn 6), .int (nI (m_t σ)), .int (m_bro σ), .int (m_drd σ), .int (m_lef σ), .ref (adn 11), .ref (adn 12), .ref (adn 13), .ref (adn 14)])), ((adn 0), .inl (cI, 64, .inl hei)), ((adn 1), .inl (cI, 64, .inl (m_wat σ))), ((adn 2), .inl (cI, 64, .inl (m_dam σ))), ((adn 3), .inl (cI, 64, .inl (m_wea σ))), ((adn 4), .inl (cI, 64, .inl dra)), ((adn 5), .inl (cI, 64, .inl (m_peo σ))), ((adn 6), .inl (cI, 12, .inl rai)), ((adn 11), .inl (cI, 64, .inl cre)), ((adn 12), .inl (cI, 64, .inl gai)), ((adn 13), .inl (cI, 64, .inl see)), ((adn 14), .inl (cI, 64, .inl fou)), (ha, .inr (0, [.ref (ada 0), .ref (ada 1), .ref (ada 2), .ref (ada 3), .ref (ada 4), .ref (ada 5), .ref (ada 6), .int (z 7 0), .int (z 8 0), .int (z 9 0), .int (z 10 0), .ref (ada 11), .ref (ada 12), .ref (ada 13), .ref (ada 14)])), ((ada 0), .inl (cI, 64, .inl (z 0))), ((ada 1), .inl (cI, 64, .inl (z 1))), ((ada 2), .inl (cI, 64, .inl (z 2))), ((ada 3), .inl (cI, 64, .inl (z 3))), ((ada 4), .inl (cI, 64, .inl (z 4))), ((ada 5), .inl (cI, 64, .inl (z 5))), ((ada 6), .inl (cI, 12, .inl (z 6))), ((ada 11), .inl (cI, 64, .inl (z 11))), ((ada 12), .inl (cI, 64, .inl (z 12))), ((ada 13), .inl (cI, 64, .inl (z 13))), ((ada 14), .inl (cI, 64, .inl (z 14)))]) (W1 := fun u => ((gW g hn ha) ++ ((pM hn adn cI hei dra rai σ cre gai see fou) ++ ((pZ ha ada cI z))))) (cells1 := 3) (slots1 := 18) ⟨hx, hb, hml, hown, hts⟩ (c_reqI l hst D cI sa1 sa2 v 0 7) (va_cwS 3 hts gX1_cell_X1_requireIndex rfl rfl rfl (by decide +kernel) ⟨Nat.le_of_ble_eq_true rfl, Nat.le_of_ble_eq_true rfl⟩) hK hP hD hS hA hT [] [0, 1, 2, 3, 4, 5, 6, 7, 8, 9, 10, 11, 12, 13, 14, 15, 16, 17, 18, 19, 20, 21, 22, 23, 24] ⟨rfl, rfl, rfl, rfl, rfl⟩ [0, 1, 2, 3, 4, 5, 6, 7, 8, 9, 10, 11, 12, 13, 14, 15, 16, 17, 18, 19, 20, 21, 22, 23, 24] rfl (fun _ => rfl) [0, 1, 2, 3, 4, 5, 6, 7, 8, 9, 10, 11, 12, 13, 14, 15, 16, 17, 18, 19, 20, 21, 22, 23, 24] rfl rfl [0] rfl rfl hl.1 rfl (Nat.le_of_ble_eq_true rfl) rfl rfl ⟨Nat.le_of_ble_eq_true rfl, Nat.le_of_ble_eq_true rfl⟩ dX1_cell_11 (fun E ce q9 H locs hex hP hD hS hce hcv hcl => finx E ce q9 H locs 3 18 11 ls _ (⟨hex.1, fun z => hex.2 z.2⟩) hP hD hS hce hcv hcl (Nat.le_of_ble_eq_true rfl) (Nat.le_of_ble_eq_true rfl)) (fun u H locs hw hP hD hS => ?_)
  have hv := hw
  obtain ⟨e7, h7⟩ := q_n7 hv.1 (n := 7) rfl (by decide) hv.2
  generalize v.toNatClampNeg = k7 at e7 h7 fin
  subst e7
  refine lv_aload_n hx hb dX1_cell_14 rfl (lv_at hl 1 rfl) ?_
  refine va_get (D := D) (ci := 1) (v := .ref hn) (C := RX1) (T := TX1) (N := 2) hx hb hts (fun _ h9 => (List.mem_cons_of_mem _ (List.mem_append_left _ (List.mem_append_left _ (List.mem_append_right _ h9))))) hown hK hP 0 rfl rfl 0 (by decide) (hts (Cond.fieldLink RX1 10 "FloodGrid" "now" "LFloodGrid$Plain;") (List.mem_of_getElem? (i := 1) rfl)) (fun _ h9 => h9) rfl dX1_cell_15 ?_
  refine lv_iload hx hb dX1_cell_18 (lv_at hl 0 rfl) ?_
  refine lv_iload_n hx hb dX1_cell_20 rfl (lv_at hl 4 rfl) ?_
  refine ct_Vi (As := [.int (nI (q_at x y)), .int (nI k7)]) (rest := []) (wr := [(g, .inr (1, [.ref hn, .ref ha])), (ha, .inr (0, [.ref (ada 0), .ref (ada 1), .ref (ada 2), .ref (ada 3), .ref (ada 4), .ref (ada 5), .ref (ada 6), .int (z 7 0), .int (z 8 0), .int (z 9 0), .int (z 10 0), .ref (ada 11), .ref (ada 12), .ref (ada 13), .ref (ada 14)])), ((ada 0), .inl (cI, 64, .inl (z 0))), ((ada 1), .inl (cI, 64, .inl (z 1))), ((ada 2), .inl (cI, 64, .inl (z 2))), ((ada 3), .inl (cI, 64, .inl (z 3))), ((ada 4), .inl (cI, 64, .inl (z 4))), ((ada 5), .inl (cI, 64, .inl (z 5))), ((ada 6), .inl (cI, 12, .inl (z 6))), ((ada 11), .inl (cI, 64, .inl (z 11))), ((ada 12), .inl (cI, 64, .inl (z 12))), ((ada 13), .inl (cI, 64, .inl (z 13))), ((ada 14), .inl (cI, 64, .inl (z 14)))]) (W1 := fun u => ((gW g hn ha) ++ ((pM hn adn cI hei dra rai σ cre gai see fou) ++ ((pZ ha ada cI z))))) (cells1 := 3) (slots1 := 18) ⟨hx, hb, hml, hown, hts⟩ (c_X0_cell l D cI hn adn hei (m_wat σ) (m_dam σ) (m_wea σ) dra (m_peo σ) rai (nI (m_t σ)) (m_bro σ) (m_drd σ) (m_lef σ) cre gai see fou (q_at x y) hat k7 (by omega)) (cwV 2 hts gX1_cell_X0_cellNumber rfl rfl rfl (by decide +kernel) ⟨Nat.le_of_ble_eq_true rfl, Nat.le_of_ble_eq_true rfl⟩) hK hP hD hS hA [1, 2, 3, 4, 5, 6, 7, 8, 9, 10, 11, 12] [0, 13, 14, 15, 16, 17, 18, 19, 20, 21, 22, 23, 24] ⟨rfl, rfl, rfl, rfl, rfl⟩ [0, 13, 14, 15, 16, 17, 18, 19, 20, 21, 22, 23, 24, 1, 2, 3, 4, 5, 6, 7, 8, 9, 10, 11, 12] rfl (fun _ => rfl) [0] rfl (va_recv hK hP (ci := 0) (q0 := 1) rfl rfl) rfl hl.1 rfl (Nat.le_of_ble_eq_true rfl) rfl rfl ⟨Nat.le_of_ble_eq_true rfl, Nat.le_of_ble_eq_true rfl⟩ dX1_cell_21 (fun r u H locs hw hP hD hS => ?_)
  exact fin r () H locs 3 18 24 ls dX1_cell_24 ⟨hin, hv, hw⟩ hP hD hS (Nat.le_of_ble_eq_true rfl) (Nat.le_of_ble_eq_true rfl)
abbrev rm_X1_lake : Room := { frames := 8, cells := 2, slots := 12, locals := 133 }
set_option maxHeartbeats 4000000 in
set_option maxRecDepth 100000 in
theorem c_X1_lake (l : Launch) (hst : l.stackTraces = false) (D : va_G) (cI : ClassId) (sa1 sa2 : Nat) (g hn ha : Nat) (adn ada : Nat → Nat) (hei dra rai : Nat → Int32) (σ : Ms) (cre gai see fou : Nat → Int32) (z : Nat → Nat → Int32) (x y : Int32) : cx_i (S := (Nat → Int32) × (Nat → Int32)) l D yX1_lake wsX1_lake rm_X1_lake [.ref g, .int x, .int y] ((gW g hn ha) ++ ((pM hn adn cI hei dra rai σ cre gai see fou) ++ ((pZ ha ada cI z)))) [(cI, .int)] sa1 sa2 (fun r _ => inC x y ∧ r = q_lakeSize (m_wat σ) (q_at x y)) (fun u => (fW g hn ha adn ada cI hei dra rai σ cre gai u.1 u.2 z)) (fun E => E = "java/lang/IndexOutOfBoundsException" ∧ ¬ inC x y) := by
  refine cx_ofi (cc := cX1_lake) (maxL := 3) (by decide) rfl (Nat.le_of_ble_eq_true rfl) ?_
  intro p e s m args below meth c A Q hx hb hml hown hts hA hK hT H locs hP hD hS fin finx ls hl
  have hown : s.vm.findClass RX1 = some m.cls := hown
  have hl : lv_has ls 3 [(0, .ref g), (1, .int x), (2, .int y)] := hl
  refine lv_aload_n hx hb dX1_lake_0 rfl (lv_at hl 0 rfl) ?_
  refine va_get (D := D) (ci := 1) (v := .ref hn) (C := RX1) (T := TX1) (N := 2) hx hb hts (fun _ h9 => (List.mem_cons_of_mem _ (List.mem_append_left _ (List.mem_append_left _ (List.mem_append_right _ h9))))) hown hK hP 0 rfl rfl 0 (by decide) (hts (Cond.fieldLink RX1 10 "FloodGrid" "now" "LFloodGrid$Plain;") (List.mem_of_getElem? (i := 1) rfl)) (fun _ h9 => h9) rfl dX1_lake_1 ?_
  refine lv_iload_n hx hb dX1_lake_4 rfl (lv_at hl 1 rfl) ?_
  refine lv_iload_n hx hb dX1_lake_5 rfl (lv_at hl 2 rfl) ?_
  refine cx_Si (As := [.int x, .int y]) (rest := [.ref hn]) (wr := [(g, .inr (1, [.ref hn, .ref ha])), (hn, .inr (0, [.ref (adn 0), .ref (adn 1), .ref (adn 2), .ref (adn 3), .ref (adn 4), .ref (adn 5), .ref (adn 6), .int (nI (m_t σ)), .int (m_bro σ), .int (m_drd σ), .int (m_lef σ), .ref (adn 11), .ref (adn 12), .ref (adn 13), .ref (adn 14)])), ((adn 0), .inl (cI, 64, .inl hei)), ((adn 1), .inl (cI, 64, .inl (m_wat σ))), ((adn 2), .inl (cI, 64, .inl (m_dam σ))), ((adn 3), .inl (cI, 64, .inl (m_wea σ))), ((adn 4), .inl (cI, 64, .inl dra)), ((adn 5), .inl (cI, 64, .inl (m_peo σ))), ((adn 6), .inl (cI, 12, .inl rai)), ((adn 11), .inl (cI, 64, .inl cre)), ((adn 12), .inl (cI, 64, .inl gai)), ((adn 13), .inl (cI, 64, .inl see)), ((adn 14), .inl (cI, 64, .inl fou)), (ha, .inr (0, [.ref (ada 0), .ref (ada 1), .ref (ada 2), .ref (ada 3), .ref (ada 4), .ref (ada 5), .ref (ada 6), .int (z 7 0), .int (z 8 0), .int (z 9 0), .int (z 10 0), .ref (ada 11), .ref (ada 12), .ref (ada 13), .ref (ada 14)])), ((ada 0), .inl (cI, 64, .inl (z 0))), ((ada 1), .inl (cI, 64, .inl (z 1))), ((ada 2), .inl (cI, 64, .inl (z 2))), ((ada 3), .inl (cI, 64, .inl (z 3))), ((ada 4), .inl (cI, 64, .inl (z 4))), ((ada 5), .inl (cI, 64, .inl (z 5))), ((ada 6), .inl (cI, 12, .inl (z 6))), ((ada 11), .inl (cI, 64, .inl (z 11))), ((ada 12), .inl (cI, 64, .inl (z 12))), ((ada 13), .inl (cI, 64, .inl (z 13))), ((ada 14), .inl (cI, 64, .inl (z 14)))]) (W1 := fun u => ((gW g hn ha) ++ ((pM hn adn cI hei dra rai σ cre gai see fou) ++ ((pZ ha ada cI z))))) (cells1 := 2) (slots1 := 12) ⟨hx, hb, hml, hown, hts⟩ (c_place l hst D cI sa1 sa2 x y) (va_cwS 2 hts gX1_lake_X1_placeOf rfl rfl rfl (by decide +kernel) ⟨Nat.le_of_ble_eq_true rfl, Nat.le_of_ble_eq_true rfl⟩) hK hP hD hS hA hT [] [0, 1, 2, 3, 4, 5, 6, 7, 8, 9, 10, 11, 12, 13, 14, 15, 16, 17, 18, 19, 20, 21, 22, 23, 24] ⟨rfl, rfl, rfl, rfl, rfl⟩ [0, 1, 2, 3, 4, 5, 6, 7, 8, 9, 10, 11, 12, 13, 14, 15, 16, 17, 18, 19, 20, 21, 22, 23, 24] rfl (fun _ => rfl) [0, 1, 2, 3, 4, 5, 6, 7, 8, 9, 10, 11, 12, 13, 14, 15, 16, 17, 18, 19, 20, 21, 22, 23, 24] rfl rfl [0] rfl rfl hl.1 rfl (Nat.le_of_ble_eq_true rfl) rfl rfl ⟨Nat.le_of_ble_eq_true rfl, Nat.le_of_ble_eq_true rfl⟩ dX1_lake_6 (fun E ce q9 H locs hex hP hD hS hce hcv hcl => finx E ce q9 H locs 2 12 6 ls _ (hex) hP hD hS hce hcv hcl (Nat.le_of_ble_eq_true rfl) (Nat.le_of_ble_eq_true rfl)) (fun r u H locs hw hP hD hS => ?_)
  obtain ⟨hin, rfl⟩ := hw
  have hat := q_at_lt hin
  refine ct_Vi (As := [.int (nI (q_at x y))]) (rest := []) (wr := [(g, .inr (1, [.ref hn, .ref ha])), (ha, .inr (0, [.ref (ada 0), .ref (ada 1), .ref (ada 2), .ref (ada 3), .ref (ada 4), .ref (ada 5), .ref (ada 6), .int (z 7 0), .int (z 8 0), .int (z 9 0), .int (z 10 0), .ref (ada 11), .ref (ada 12), .ref (ada 13), .ref (ada 14)])), ((ada 0), .inl (cI, 64, .inl (z 0))), ((ada 1), .inl (cI, 64, .inl (z 1))), ((ada 2), .inl (cI, 64, .inl (z 2))), ((ada 3), .inl (cI, 64, .inl (z 3))), ((ada 4), .inl (cI, 64, .inl (z 4))), ((ada 5), .inl (cI, 64, .inl (z 5))), ((ada 6), .inl (cI, 12, .inl (z 6))), ((ada 11), .inl (cI, 64, .inl (z 11))), ((ada 12), .inl (cI, 64, .inl (z 12))), ((ada 13), .inl (cI, 64, .inl (z 13))), ((ada 14), .inl (cI, 64, .inl (z 14)))]) (W1 := fun u => ((gW g hn ha) ++ ((pM hn adn cI hei dra rai σ cre gai u.1 u.2) ++ ((pZ ha ada cI z))))) (cells1 := 2) (slots1 := 12) ⟨hx, hb, hml, hown, hts⟩ (c_X0_lakeSize l D cI hn adn hei (m_wat σ) (m_dam σ) (m_wea σ) dra (m_peo σ) rai (nI (m_t σ)) (m_bro σ) (m_drd σ) (m_lef σ) cre gai see fou (q_at x y) hat) (cwV 1 hts gX1_lake_X0_lakeSize rfl rfl rfl (by decide +kernel) ⟨Nat.le_of_ble_eq_true rfl, Nat.le_of_ble_eq_true rfl⟩) hK hP hD hS hA [1, 2, 3, 4, 5, 6, 7, 8, 9, 10, 11, 12] [0, 13, 14, 15, 16, 17, 18, 19, 20, 21, 22, 23, 24] ⟨rfl, rfl, rfl, rfl, rfl⟩ [0, 13, 14, 15, 16, 17, 18, 19, 20, 21, 22, 23, 24, 1, 2, 3, 4, 5, 6, 7, 8, 9, 10, 11, 12] rfl (fun _ => rfl) [0] rfl (va_recv hK hP (ci := 0) (q0 := 1) rfl rfl) rfl hl.1 rfl (Nat.le_of_ble_eq_true rfl) rfl rfl ⟨Nat.le_of_ble_eq_true rfl, Nat.le_of_ble_eq_true rfl⟩ dX1_lake_9 (fun r u H locs hw hP hD hS => ?_)
  exact fin r u H locs 2 12 12 ls dX1_lake_12 ⟨hin, hw⟩ hP hD hS (Nat.le_of_ble_eq_true rfl) (Nat.le_of_ble_eq_true rfl)
abbrev rm_X1_count : Room := { frames := 7, cells := 1, slots := 6, locals := 112 }
set_option maxHeartbeats 4000000 in
set_option maxRecDepth 100000 in
theorem c_X1_count (l : Launch) (hst : l.stackTraces = false) (D : va_G) (cI : ClassId) (sa1 sa2 : Nat) (g hn ha : Nat) (adn ada : Nat → Nat) (hei dra rai : Nat → Int32) (σ : Ms) (cre gai see fou : Nat → Int32) (z : Nat → Nat → Int32) (v : Int32) : cx_i (S := (Nat → Int32) × (Nat → Int32)) l D yX1_count wsX1_count rm_X1_count [.ref g, .int v] ((gW g hn ha) ++ ((pM hn adn cI hei dra rai σ cre gai see fou) ++ ((pZ ha ada cI z)))) [(cI, .int)] sa1 sa2 (fun r _ => (0 ≤ v ∧ v ≤ 8) ∧ r = q_tally σ v.toNatClampNeg) (fun u => (fW g hn ha adn ada cI hei dra rai σ cre gai u.1 u.2 z)) (fun E => E = "java/lang/IndexOutOfBoundsException" ∧ ¬ (0 ≤ v ∧ v ≤ 8)) := by
  refine cx_ofi (cc := cX1_count) (maxL := 2) (by decide) rfl (Nat.le_of_ble_eq_true rfl) ?_
  intro p e s m args below meth c A Q hx hb hml hown hts hA hK hT H locs hP hD hS fin finx ls hl
  have hown : s.vm.findClass RX1 = some m.cls := hown
  have hl : lv_has ls 2 [(0, .ref g), (1, .int v)] := hl
  refine lv_iload_n hx hb dX1_count_0 rfl (lv_at hl 1 rfl) ?_
  refine lv_iconst (v := 0) hx hb dX1_count_1 (by decide) ?_
  refine lv_bipush (v := 8) hx hb dX1_count_2 (by decide) ?_
  refine cx_Sv (As := [.int v, .int 0, .int 8]) (rest := []) (wr := [(g, .inr (1, [.ref hn, .ref ha])), (hn, .inr (0, [.ref (adn 0), .ref (adn 1), .ref (adn 2), .ref (adn 3), .ref (adn 4), .ref (adn 5), .ref (adn 6), .int (nI (m_t σ)), .int (m_bro σ), .int (m_drd σ), .int (m_lef σ), .ref (adn 11), .ref (adn 12), .ref (adn 13), .ref (adn 14)])), ((adn 0), .inl (cI, 64, .inl hei)), ((adn 1), .inl (cI, 64, .inl (m_wat σ))), ((adn 2), .inl (cI, 64, .inl (m_dam σ))), ((adn 3), .inl (cI, 64, .inl (m_wea σ))), ((adn 4), .inl (cI, 64, .inl dra)), ((adn 5), .inl (cI, 64, .inl (m_peo σ))), ((adn 6), .inl (cI, 12, .inl rai)), ((adn 11), .inl (cI, 64, .inl cre)), ((adn 12), .inl (cI, 64, .inl gai)), ((adn 13), .inl (cI, 64, .inl see)), ((adn 14), .inl (cI, 64, .inl fou)), (ha, .inr (0, [.ref (ada 0), .ref (ada 1), .ref (ada 2), .ref (ada 3), .ref (ada 4), .ref (ada 5), .ref (ada 6), .int (z 7 0), .int (z 8 0), .int (z 9 0), .int (z 10 0), .ref (ada 11), .ref (ada 12), .ref (ada 13), .ref (ada 14)])), ((ada 0), .inl (cI, 64, .inl (z 0))), ((ada 1), .inl (cI, 64, .inl (z 1))), ((ada 2), .inl (cI, 64, .inl (z 2))), ((ada 3), .inl (cI, 64, .inl (z 3))), ((ada 4), .inl (cI, 64, .inl (z 4))), ((ada 5), .inl (cI, 64, .inl (z 5))), ((ada 6), .inl (cI, 12, .inl (z 6))), ((ada 11), .inl (cI, 64, .inl (z 11))), ((ada 12), .inl (cI, 64, .inl (z 12))), ((ada 13), .inl (cI, 64, .inl (z 13))), ((ada 14), .inl (cI, 64, .inl (z 14)))]) (W1 := fun u => ((gW g hn ha) ++ ((pM hn adn cI hei dra rai σ cre gai see fou) ++ ((pZ ha ada cI z))))) (cells1 := 1) (slots1 := 6) ⟨hx, hb, hml, hown, hts⟩ (c_reqI l hst D cI sa1 sa2 v 0 8) (va_cwS 3 hts gX1_count_X1_requireIndex rfl rfl rfl (by decide +kernel) ⟨Nat.le_of_ble_eq_true rfl, Nat.le_of_ble_eq_true rfl⟩) hK hP hD hS hA hT [] [0, 1, 2, 3, 4, 5, 6, 7, 8, 9, 10, 11, 12, 13, 14, 15, 16, 17, 18, 19, 20, 21, 22, 23, 24] ⟨rfl, rfl, rfl, rfl, rfl⟩ [0, 1, 2, 3, 4, 5, 6, 7, 8, 9, 10, 11, 12, 13, 14, 15, 16, 17, 18, 19, 20, 21, 22, 23, 24] rfl (fun _ => rfl) [0, 1, 2, 3, 4, 5, 6, 7, 8, 9, 10, 11, 12, 13, 14, 15, 16, 17, 18, 19, 20, 21, 22, 23, 24] rfl rfl [0] rfl rfl hl.1 rfl (Nat.le_of_ble_eq_true rfl) rfl rfl ⟨Nat.le_of_ble_eq_true rfl, Nat.le_of_ble_eq_true rfl⟩ dX1_count_4 (fun E ce q9 H locs hex hP hD hS hce hcv hcl => finx E ce q9 H locs 1 6 4 ls _ (hex) hP hD hS hce hcv hcl (Nat.le_of_ble_eq_true rfl) (Nat.le_of_ble_eq_true rfl)) (fun u H locs hw hP hD hS => ?_)
  have hv := hw
  obtain ⟨e7, h7⟩ := q_n7 hv.1 (n := 8) rfl (by decide) hv.2
  generalize v.toNatClampNeg = k7 at e7 h7 fin
  subst e7
  refine lv_aload_n hx hb dX1_count_7 rfl (lv_at hl 0 rfl) ?_
  refine va_get (D := D) (ci := 1) (v := .ref hn) (C := RX1) (T := TX1) (N := 2) hx hb hts (fun _ h9 => (List.mem_cons_of_mem _ (List.mem_append_left _ (List.mem_append_left _ (List.mem_append_right _ h9))))) hown hK hP 0 rfl rfl 0 (by decide) (hts (Cond.fieldLink RX1 10 "FloodGrid" "now" "LFloodGrid$Plain;") (List.mem_of_getElem? (i := 1) rfl)) (fun _ h9 => h9) rfl dX1_count_8 ?_
  refine lv_iload_n hx hb dX1_count_11 rfl (lv_at hl 1 rfl) ?_
  refine ct_Vi (As := [.int (nI k7)]) (rest := []) (wr := [(g, .inr (1, [.ref hn, .ref ha])), (ha, .inr (0, [.ref (ada 0), .ref (ada 1), .ref (ada 2), .ref (ada 3), .ref (ada 4), .ref (ada 5), .ref (ada 6), .int (z 7 0), .int (z 8 0), .int (z 9 0), .int (z 10 0), .ref (ada 11), .ref (ada 12), .ref (ada 13), .ref (ada 14)])), ((ada 0), .inl (cI, 64, .inl (z 0))), ((ada 1), .inl (cI, 64, .inl (z 1))), ((ada 2), .inl (cI, 64, .inl (z 2))), ((ada 3), .inl (cI, 64, .inl (z 3))), ((ada 4), .inl (cI, 64, .inl (z 4))), ((ada 5), .inl (cI, 64, .inl (z 5))), ((ada 6), .inl (cI, 12, .inl (z 6))), ((ada 11), .inl (cI, 64, .inl (z 11))), ((ada 12), .inl (cI, 64, .inl (z 12))), ((ada 13), .inl (cI, 64, .inl (z 13))), ((ada 14), .inl (cI, 64, .inl (z 14)))]) (W1 := fun u => ((gW g hn ha) ++ ((pM hn adn cI hei dra rai σ cre gai u.1 u.2) ++ ((pZ ha ada cI z))))) (cells1 := 1) (slots1 := 6) ⟨hx, hb, hml, hown, hts⟩ (c_X0_tally l D cI hn adn hei dra rai σ cre gai see fou k7 (by omega)) (cwV 1 hts gX1_count_X0_tally rfl rfl rfl (by decide +kernel) ⟨Nat.le_of_ble_eq_true rfl, Nat.le_of_ble_eq_true rfl⟩) hK hP hD hS hA [1, 2, 3, 4, 5, 6, 7, 8, 9, 10, 11, 12] [0, 13, 14, 15, 16, 17, 18, 19, 20, 21, 22, 23, 24] ⟨rfl, rfl, rfl, rfl, rfl⟩ [0, 13, 14, 15, 16, 17, 18, 19, 20, 21, 22, 23, 24, 1, 2, 3, 4, 5, 6, 7, 8, 9, 10, 11, 12] rfl (fun _ => rfl) [0] rfl (va_recv hK hP (ci := 0) (q0 := 1) rfl rfl) rfl hl.1 rfl (Nat.le_of_ble_eq_true rfl) rfl rfl ⟨Nat.le_of_ble_eq_true rfl, Nat.le_of_ble_eq_true rfl⟩ dX1_count_12 (fun r u H locs hw hP hD hS => ?_)
  exact fin r u H locs 1 6 15 ls dX1_count_15 ⟨hv, hw⟩ hP hD hS (Nat.le_of_ble_eq_true rfl) (Nat.le_of_ble_eq_true rfl)
abbrev rm_X1_pass : Room := { frames := 7, cells := 1, slots := 6, locals := 112 }
set_option maxHeartbeats 4000000 in
set_option maxRecDepth 100000 in
theorem c_X1_pass (l : Launch) (hst : l.stackTraces = false) (D : va_G) (cI : ClassId) (sa1 sa2 : Nat) (g hn ha : Nat) (adn ada : Nat → Nat) (hei dra rai : Nat → Int32) (σ : Ms) (cre gai see fou : Nat → Int32) (z : Nat → Nat → Int32) (ht : m_t σ < 2 ^ 29) (v : Int32) : cx_i (S := (Nat → Int32) × (Nat → Int32)) l D yX1_pass wsX1_pass rm_X1_pass [.ref g, .int v] ((gW g hn ha) ++ ((pM hn adn cI hei dra rai σ cre gai see fou) ++ ((pZ ha ada cI z)))) [(cI, .int)] sa1 sa2 (fun r _ => (1 ≤ v ∧ v ≤ 48) ∧ r = q_leave hei dra rai v.toNatClampNeg σ) (fun u => (fW g hn ha adn ada cI hei dra rai (q_hours hei dra rai v.toNatClampNeg σ) u.1 u.2 see fou z)) (fun E => E = "java/lang/IllegalArgumentException" ∧ ¬ (1 ≤ v ∧ v ≤ 48)) := by
  refine cx_ofi (cc := cX1_pass) (maxL := 2) (by decide) rfl (Nat.le_of_ble_eq_true rfl) ?_
  intro p e s m args below meth c A Q hx hb hml hown hts hA hK hT H locs hP hD hS fin finx ls hl
  have hown : s.vm.findClass RX1 = some m.cls := hown
  have hl : lv_has ls 2 [(0, .ref g), (1, .int v)] := hl
  refine lv_iload_n hx hb dX1_pass_0 rfl (lv_at hl 1 rfl) ?_
  refine lv_iconst (v := 1) hx hb dX1_pass_1 (by decide) ?_
  refine lv_bipush (v := 48) hx hb dX1_pass_2 (by decide) ?_
  refine cx_Sv (As := [.int v, .int 1, .int 48]) (rest := []) (wr := [(g, .inr (1, [.ref hn, .ref ha])), (hn, .inr (0, [.ref (adn 0), .ref (adn 1), .ref (adn 2), .ref (adn 3), .ref (adn 4), .ref (adn 5), .ref (adn 6), .int (nI (m_t σ)), .int (m_bro σ), .int (m_drd σ), .int (m_lef σ), .ref (adn 11), .ref (adn 12), .ref (adn 13), .ref (adn 14)])), ((adn 0), .inl (cI, 64, .inl hei)), ((adn 1), .inl (cI, 64, .inl (m_wat σ))), ((adn 2), .inl (cI, 64, .inl (m_dam σ))), ((adn 3), .inl (cI, 64, .inl (m_wea σ))), ((adn 4), .inl (cI, 64, .inl dra)), ((adn 5), .inl (cI, 64, .inl (m_peo σ))), ((adn 6), .inl (cI, 12, .inl rai)), ((adn 11), .inl (cI, 64, .inl cre)), ((adn 12), .inl (cI, 64, .inl gai)), ((adn 13), .inl (cI, 64, .inl see)), ((adn 14), .inl (cI, 64, .inl fou)), (ha, .inr (0, [.ref (ada 0), .ref (ada 1), .ref (ada 2), .ref (ada 3), .ref (ada 4), .ref (ada 5), .ref (ada 6), .int (z 7 0), .int (z 8 0), .int (z 9 0), .int (z 10 0), .ref (ada 11), .ref (ada 12), .ref (ada 13), .ref (ada 14)])), ((ada 0), .inl (cI, 64, .inl (z 0))), ((ada 1), .inl (cI, 64, .inl (z 1))), ((ada 2), .inl (cI, 64, .inl (z 2))), ((ada 3), .inl (cI, 64, .inl (z 3))), ((ada 4), .inl (cI, 64, .inl (z 4))), ((ada 5), .inl (cI, 64, .inl (z 5))), ((ada 6), .inl (cI, 12, .inl (z 6))), ((ada 11), .inl (cI, 64, .inl (z 11))), ((ada 12), .inl (cI, 64, .inl (z 12))), ((ada 13), .inl (cI, 64, .inl (z 13))), ((ada 14), .inl (cI, 64, .inl (z 14)))]) (W1 := fun u => ((gW g hn ha) ++ ((pM hn adn cI hei dra rai σ cre gai see fou) ++ ((pZ ha ada cI z))))) (cells1 := 1) (slots1 := 6) ⟨hx, hb, hml, hown, hts⟩ (c_reqW l hst D cI sa1 sa2 v 1 48) (va_cwS 3 hts gX1_pass_X1_requireWithin rfl rfl rfl (by decide +kernel) ⟨Nat.le_of_ble_eq_true rfl, Nat.le_of_ble_eq_true rfl⟩) hK hP hD hS hA hT [] [0, 1, 2, 3, 4, 5, 6, 7, 8, 9, 10, 11, 12, 13, 14, 15, 16, 17, 18, 19, 20, 21, 22, 23, 24] ⟨rfl, rfl, rfl, rfl, rfl⟩ [0, 1, 2, 3, 4, 5, 6, 7, 8, 9, 10, 11, 12, 13, 14, 15, 16, 17, 18, 19, 20, 21, 22, 23, 24] rfl (fun _ => rfl) [0, 1, 2, 3, 4, 5, 6, 7, 8, 9, 10, 11, 12, 13, 14, 15, 16, 17, 18, 19, 20, 21, 22, 23, 24] rfl rfl [0] rfl rfl hl.1 rfl (Nat.le_of_ble_eq_true rfl) rfl rfl ⟨Nat.le_of_ble_eq_true rfl, Nat.le_of_ble_eq_true rfl⟩ dX1_pass_4 (fun E ce q9 H locs hex hP hD hS hce hcv hcl => finx E ce q9 H locs 1 6 4 ls _ (hex) hP hD hS hce hcv hcl (Nat.le_of_ble_eq_true rfl) (Nat.le_of_ble_eq_true rfl)) (fun u H locs hw hP hD hS => ?_)
  have hv := hw
  obtain ⟨e7, h7⟩ := q_n7 (Int32.le_trans (show (0 : Int32) ≤ 1 by decide) hv.1) (n := 48) rfl (by decide) hv.2
  generalize v.toNatClampNeg = k7 at e7 h7 fin
  subst e7
  refine lv_aload_n hx hb dX1_pass_7 rfl (lv_at hl 0 rfl) ?_
  refine va_get (D := D) (ci := 1) (v := .ref hn) (C := RX1) (T := TX1) (N := 2) hx hb hts (fun _ h9 => (List.mem_cons_of_mem _ (List.mem_append_left _ (List.mem_append_left _ (List.mem_append_right _ h9))))) hown hK hP 0 rfl rfl 0 (by decide) (hts (Cond.fieldLink RX1 10 "FloodGrid" "now" "LFloodGrid$Plain;") (List.mem_of_getElem? (i := 1) rfl)) (fun _ h9 => h9) rfl dX1_pass_8 ?_
  refine lv_iload_n hx hb dX1_pass_11 rfl (lv_at hl 1 rfl) ?_
  refine ct_Vi (As := [.int (nI k7)]) (rest := []) (wr := [(g, .inr (1, [.ref hn, .ref ha])), (ha, .inr (0, [.ref (ada 0), .ref (ada 1), .ref (ada 2), .ref (ada 3), .ref (ada 4), .ref (ada 5), .ref (ada 6), .int (z 7 0), .int (z 8 0), .int (z 9 0), .int (z 10 0), .ref (ada 11), .ref (ada 12), .ref (ada 13), .ref (ada 14)])), ((ada 0), .inl (cI, 64, .inl (z 0))), ((ada 1), .inl (cI, 64, .inl (z 1))), ((ada 2), .inl (cI, 64, .inl (z 2))), ((ada 3), .inl (cI, 64, .inl (z 3))), ((ada 4), .inl (cI, 64, .inl (z 4))), ((ada 5), .inl (cI, 64, .inl (z 5))), ((ada 6), .inl (cI, 12, .inl (z 6))), ((ada 11), .inl (cI, 64, .inl (z 11))), ((ada 12), .inl (cI, 64, .inl (z 12))), ((ada 13), .inl (cI, 64, .inl (z 13))), ((ada 14), .inl (cI, 64, .inl (z 14)))]) (W1 := fun u => ((gW g hn ha) ++ ((pM hn adn cI hei dra rai (q_hours hei dra rai k7 σ) u.1 u.2 see fou) ++ ((pZ ha ada cI z))))) (cells1 := 1) (slots1 := 6) ⟨hx, hb, hml, hown, hts⟩ (c_X0_hours l D cI hn adn hei dra rai σ cre gai see fou k7 (by omega) (by omega)) (cwV 1 hts gX1_pass_X0_goHours rfl rfl rfl (by decide +kernel) ⟨Nat.le_of_ble_eq_true rfl, Nat.le_of_ble_eq_true rfl⟩) hK hP hD hS hA [1, 2, 3, 4, 5, 6, 7, 8, 9, 10, 11, 12] [0, 13, 14, 15, 16, 17, 18, 19, 20, 21, 22, 23, 24] ⟨rfl, rfl, rfl, rfl, rfl⟩ [0, 13, 14, 15, 16, 17, 18, 19, 20, 21, 22, 23, 24, 1, 2, 3, 4, 5, 6, 7, 8, 9, 10, 11, 12] rfl (fun _ => rfl) [0] rfl (va_recv hK hP (ci := 0) (q0 := 1) rfl rfl) rfl hl.1 rfl (Nat.le_of_ble_eq_true rfl) rfl rfl ⟨Nat.le_of_ble_eq_true rfl, Nat.le_of_ble_eq_true rfl⟩ dX1_pass_12 (fun r u H locs hw hP hD hS => ?_)
  exact fin r u H locs 1 6 15 ls dX1_pass_15 ⟨hv, hw⟩ hP hD hS (Nat.le_of_ble_eq_true rfl) (Nat.le_of_ble_eq_true rfl)
abbrev rm_X1_foresee : Room := { frames := 7, cells := 2, slots := 12, locals := 112 }
set_option maxHeartbeats 4000000 in
set_option maxRecDepth 100000 in
theorem c_X1_foresee (l : Launch) (hst : l.stackTraces = false) (D : va_G) (cI : ClassId) (sa1 sa2 : Nat) (g hn ha : Nat) (adn ada : Nat → Nat) (hei dra rai : Nat → Int32) (σ : Ms) (cre gai see fou : Nat → Int32) (z : Nat → Nat → Int32) (ht : m_t σ < 2 ^ 29) (v q : Int32) : cx_i (S := Nat → Nat → Int32) l D yX1_foresee wsX1_foresee rm_X1_foresee [.ref g, .int v, .int q] ((gW g hn ha) ++ ((pM hn adn cI hei dra rai σ cre gai see fou) ++ ((pZ ha ada cI z)))) [(cI, .int)] sa1 sa2 (fun r _ => (1 ≤ v ∧ v ≤ 48) ∧ (1 ≤ q ∧ q ≤ 8) ∧ r = q_tally (q_hours hei dra rai v.toNatClampNeg σ) q.toNatClampNeg) (fun u => (fW g hn ha adn ada cI hei dra rai σ cre gai see fou u)) (fun E => (E = "java/lang/IllegalArgumentException" ∧ ¬ (1 ≤ v ∧ v ≤ 48)) ∨ (E = "java/lang/IndexOutOfBoundsException" ∧ (1 ≤ v ∧ v ≤ 48) ∧ ¬ (1 ≤ q ∧ q ≤ 8))) := by
  refine cx_ofi (cc := cX1_foresee) (maxL := 3) (by decide) rfl (Nat.le_of_ble_eq_true rfl) ?_
  intro p e s m args below meth c A Q hx hb hml hown hts hA hK hT H locs hP hD hS fin finx ls hl
  have hown : s.vm.findClass RX1 = some m.cls := hown
  have hl : lv_has ls 3 [(0, .ref g), (1, .int v), (2, .int q)] := hl
  refine lv_iload_n hx hb dX1_foresee_0 rfl (lv_at hl 1 rfl) ?_
  refine lv_iconst (v := 1) hx hb dX1_foresee_1 (by decide) ?_
  refine lv_bipush (v := 48) hx hb dX1_foresee_2 (by decide) ?_
  refine cx_Sv (As := [.int v, .int 1, .int 48]) (rest := []) (wr := [(g, .inr (1, [.ref hn, .ref ha])), (hn, .inr (0, [.ref (adn 0), .ref (adn 1), .ref (adn 2), .ref (adn 3), .ref (adn 4), .ref (adn 5), .ref (adn 6), .int (nI (m_t σ)), .int (m_bro σ), .int (m_drd σ), .int (m_lef σ), .ref (adn 11), .ref (adn 12), .ref (adn 13), .ref (adn 14)])), ((adn 0), .inl (cI, 64, .inl hei)), ((adn 1), .inl (cI, 64, .inl (m_wat σ))), ((adn 2), .inl (cI, 64, .inl (m_dam σ))), ((adn 3), .inl (cI, 64, .inl (m_wea σ))), ((adn 4), .inl (cI, 64, .inl dra)), ((adn 5), .inl (cI, 64, .inl (m_peo σ))), ((adn 6), .inl (cI, 12, .inl rai)), ((adn 11), .inl (cI, 64, .inl cre)), ((adn 12), .inl (cI, 64, .inl gai)), ((adn 13), .inl (cI, 64, .inl see)), ((adn 14), .inl (cI, 64, .inl fou)), (ha, .inr (0, [.ref (ada 0), .ref (ada 1), .ref (ada 2), .ref (ada 3), .ref (ada 4), .ref (ada 5), .ref (ada 6), .int (z 7 0), .int (z 8 0), .int (z 9 0), .int (z 10 0), .ref (ada 11), .ref (ada 12), .ref (ada 13), .ref (ada 14)])), ((ada 0), .inl (cI, 64, .inl (z 0))), ((ada 1), .inl (cI, 64, .inl (z 1))), ((ada 2), .inl (cI, 64, .inl (z 2))), ((ada 3), .inl (cI, 64, .inl (z 3))), ((ada 4), .inl (cI, 64, .inl (z 4))), ((ada 5), .inl (cI, 64, .inl (z 5))), ((ada 6), .inl (cI, 12, .inl (z 6))), ((ada 11), .inl (cI, 64, .inl (z 11))), ((ada 12), .inl (cI, 64, .inl (z 12))), ((ada 13), .inl (cI, 64, .inl (z 13))), ((ada 14), .inl (cI, 64, .inl (z 14)))]) (W1 := fun u => ((gW g hn ha) ++ ((pM hn adn cI hei dra rai σ cre gai see fou) ++ ((pZ ha ada cI z))))) (cells1 := 1) (slots1 := 6) ⟨hx, hb, hml, hown, hts⟩ (c_reqW l hst D cI sa1 sa2 v 1 48) (va_cwS 3 hts gX1_foresee_X1_requireWithin rfl rfl rfl (by decide +kernel) ⟨Nat.le_of_ble_eq_true rfl, Nat.le_of_ble_eq_true rfl⟩) hK hP hD hS hA hT [] [0, 1, 2, 3, 4, 5, 6, 7, 8, 9, 10, 11, 12, 13, 14, 15, 16, 17, 18, 19, 20, 21, 22, 23, 24] ⟨rfl, rfl, rfl, rfl, rfl⟩ [0, 1, 2, 3, 4, 5, 6, 7, 8, 9, 10, 11, 12, 13, 14, 15, 16, 17, 18, 19, 20, 21, 22, 23, 24] rfl (fun _ => rfl) [0, 1, 2, 3, 4, 5, 6, 7, 8, 9, 10, 11, 12, 13, 14, 15, 16, 17, 18, 19, 20, 21, 22, 23, 24] rfl rfl [0] rfl rfl hl.1 rfl (Nat.le_of_ble_eq_true rfl) rfl rfl ⟨Nat.le_of_ble_eq_true rfl, Nat.le_of_ble_eq_true rfl⟩ dX1_foresee_4 (fun E ce q9 H locs hex hP hD hS hce hcv hcl => finx E ce q9 H locs 1 6 4 ls _ (Or.inl hex) hP hD hS hce hcv hcl (Nat.le_of_ble_eq_true rfl) (Nat.le_of_ble_eq_true rfl)) (fun u H locs hw hP hD hS => ?_)
  have hv := hw
  refine lv_iload_n hx hb dX1_foresee_7 rfl (lv_at hl 2 rfl) ?_
  refine lv_iconst (v := 1) hx hb dX1_foresee_8 (by decide) ?_
  refine lv_bipush (v := 8) hx hb dX1_foresee_9 (by decide) ?_
  refine cx_Sv (As := [.int q, .int 1, .int 8]) (rest := []) (wr := [(g, .inr (1, [.ref hn, .ref ha])), (hn, .inr (0, [.ref (adn 0), .ref (adn 1), .ref (adn 2), .ref (adn 3), .ref (adn 4), .ref (adn 5), .ref (adn 6), .int (nI (m_t σ)), .int (m_bro σ), .int (m_drd σ), .int (m_lef σ), .ref (adn 11), .ref (adn 12), .ref (adn 13), .ref (adn 14)])), ((adn 0), .inl (cI, 64, .inl hei)), ((adn 1), .inl (cI, 64, .inl (m_wat σ))), ((adn 2), .inl (cI, 64, .inl (m_dam σ))), ((adn 3), .inl (cI, 64, .inl (m_wea σ))), ((adn 4), .inl (cI, 64, .inl dra)), ((adn 5), .inl (cI, 64, .inl (m_peo σ))), ((adn 6), .inl (cI, 12, .inl rai)), ((adn 11), .inl (cI, 64, .inl cre)), ((adn 12), .inl (cI, 64, .inl gai)), ((adn 13), .inl (cI, 64, .inl see)), ((adn 14), .inl (cI, 64, .inl fou)), (ha, .inr (0, [.ref (ada 0), .ref (ada 1), .ref (ada 2), .ref (ada 3), .ref (ada 4), .ref (ada 5), .ref (ada 6), .int (z 7 0), .int (z 8 0), .int (z 9 0), .int (z 10 0), .ref (ada 11), .ref (ada 12), .ref (ada 13), .ref (ada 14)])), ((ada 0), .inl (cI, 64, .inl (z 0))), ((ada 1), .inl (cI, 64, .inl (z 1))), ((ada 2), .inl (cI, 64, .inl (z 2))), ((ada 3), .inl (cI, 64, .inl (z 3))), ((ada 4), .inl (cI, 64, .inl (z 4))), ((ada 5), .inl (cI, 64, .inl (z 5))), ((ada 6), .inl (cI, 12, .inl (z 6))), ((ada 11), .inl (cI, 64, .inl (z 11))), ((ada 12), .inl (cI, 64, .inl (z 12))), ((ada 13), .inl (cI, 64, .inl (z 13))), ((ada 14), .inl (cI, 64, .inl (z 14)))]) (W1 := fun u => ((gW g hn ha) ++ ((pM hn adn cI hei dra rai σ cre gai see fou) ++ ((pZ ha ada cI z))))) (cells1 := 2) (slots1 := 12) ⟨hx, hb, hml, hown, hts⟩ (c_reqI l hst D cI sa1 sa2 q 1 8) (va_cwS 3 hts gX1_foresee_X1_requireIndex rfl rfl rfl (by decide +kernel) ⟨Nat.le_of_ble_eq_true rfl, Nat.le_of_ble_eq_true rfl⟩) hK hP hD hS hA hT [] [0, 1, 2, 3, 4, 5, 6, 7, 8, 9, 10, 11, 12, 13, 14, 15, 16, 17, 18, 19, 20, 21, 22, 23, 24] ⟨rfl, rfl, rfl, rfl, rfl⟩ [0, 1, 2, 3, 4, 5, 6, 7, 8, 9, 10, 11, 12, 13, 14, 15, 16, 17, 18, 19, 20, 21, 22, 23, 24] rfl (fun _ => rfl) [0, 1, 2, 3, 4, 5, 6, 7, 8, 9, 10, 11, 12, 13, 14, 15, 16, 17, 18, 19, 20, 21, 22, 23, 24] rfl rfl [0] rfl rfl hl.1 rfl (Nat.le_of_ble_eq_true rfl) rfl rfl ⟨Nat.le_of_ble_eq_true rfl, Nat.le_of_ble_eq_true rfl⟩ dX1_foresee_11 (fun E ce q9 H locs hex hP hD hS hce hcv hcl => finx E ce q9 H locs 2 12 11 ls _ (Or.inr ⟨hex.1, hv, hex.2⟩) hP hD hS hce hcv hcl (Nat.le_of_ble_eq_true rfl) (Nat.le_of_ble_eq_true rfl)) (fun u H locs hw hP hD hS => ?_)
  have hq := hw
  obtain ⟨e7, h7⟩ := q_n7 (Int32.le_trans (show (0 : Int32) ≤ 1 by decide) hv.1) (n := 48) rfl (by decide) hv.2
  generalize v.toNatClampNeg = k7 at e7 h7 fin
  subst e7
  obtain ⟨e8, h8⟩ := q_n7 (Int32.le_trans (show (0 : Int32) ≤ 1 by decide) hq.1) (n := 8) rfl (by decide) hq.2
  generalize q.toNatClampNeg = k8 at e8 h8 fin
  subst e8
  refine lv_aload_n hx hb dX1_foresee_14 rfl (lv_at hl 0 rfl) ?_
  refine va_get (D := D) (ci := 1) (v := .ref ha) (C := RX1) (T := TX1) (N := 2) hx hb hts (fun _ h9 => (List.mem_cons_of_mem _ (List.mem_append_left _ (List.mem_append_left _ (List.mem_append_left _ (List.mem_append_right _ h9)))))) hown hK hP 0 rfl rfl 1 (by decide) (hts (Cond.fieldLink RX1 16 "FloodGrid" "ahead" "LFloodGrid$Plain;") (List.mem_of_getElem? (i := 1) rfl)) (fun _ h9 => h9) rfl dX1_foresee_15 ?_
  refine lv_aload_n hx hb dX1_foresee_18 rfl (lv_at hl 0 rfl) ?_
  refine va_get (D := D) (ci := 1) (v := .ref hn) (C := RX1) (T := TX1) (N := 2) hx hb hts (fun _ h9 => (List.mem_cons_of_mem _ (List.mem_append_left _ (List.mem_append_left _ (List.mem_append_left _ (List.mem_append_right _ h9)))))) hown hK hP 0 rfl rfl 0 (by decide) (hts (Cond.fieldLink RX1 10 "FloodGrid" "now" "LFloodGrid$Plain;") (List.mem_of_getElem? (i := 2) rfl)) (fun _ h9 => h9) rfl dX1_foresee_19 ?_
  refine ct_Vv (As := [.ref hn]) (rest := []) (wr := [(g, .inr (1, [.ref hn, .ref ha]))]) (W1 := fun u => ((gW g hn ha) ++ ((pM hn adn cI hei dra rai σ cre gai see fou) ++ ((pM ha ada cI hei dra rai σ (z 11) (z 12) (z 13) (z 14)))))) (cells1 := 2) (slots1 := 12) ⟨hx, hb, hml, hown, hts⟩ (c_X0_become l D cI ha ada (z 0) (z 1) (z 2) (z 3) (z 4) (z 5) (z 6) (z 7 0) (z 8 0) (z 9 0) (z 10 0) (z 11) (z 12) (z 13) (z 14) hn adn hei (m_wat σ) (m_dam σ) (m_wea σ) dra (m_peo σ) rai (nI (m_t σ)) (m_bro σ) (m_drd σ) (m_lef σ) cre gai see fou) (cwV 1 hts gX1_foresee_X0_becomeLike rfl rfl rfl (by decide +kernel) ⟨Nat.le_of_ble_eq_true rfl, Nat.le_of_ble_eq_true rfl⟩) hK hP hD hS hA [13, 14, 15, 16, 17, 18, 19, 20, 21, 22, 23, 24, 1, 2, 3, 4, 5, 6, 7, 8, 9, 10, 11, 12] [0] ⟨rfl, rfl, rfl, rfl, rfl⟩ [0, 13, 14, 15, 16, 17, 18, 19, 20, 21, 22, 23, 24, 1, 2, 3, 4, 5, 6, 7, 8, 9, 10, 11, 12] rfl (fun _ => rfl) [0] rfl (va_recv hK hP (ci := 0) (q0 := 13) rfl rfl) rfl hl.1 rfl (Nat.le_of_ble_eq_true rfl) rfl rfl ⟨Nat.le_of_ble_eq_true rfl, Nat.le_of_ble_eq_true rfl⟩ dX1_foresee_22 (fun u H locs hw hP hD hS => ?_)
  refine lv_aload_n hx hb dX1_foresee_25 rfl (lv_at hl 0 rfl) ?_
  refine va_get (D := D) (ci := 1) (v := .ref ha) (C := RX1) (T := TX1) (N := 2) hx hb hts (fun _ h9 => (List.mem_cons_of_mem _ (List.mem_append_left _ (List.mem_append_left _ (List.mem_append_left _ (List.mem_append_right _ h9)))))) hown hK hP 0 rfl rfl 1 (by decide) (hts (Cond.fieldLink RX1 16 "FloodGrid" "ahead" "LFloodGrid$Plain;") (List.mem_of_getElem? (i := 1) rfl)) (fun _ h9 => h9) rfl dX1_foresee_26 ?_
  refine lv_iload_n hx hb dX1_foresee_29 rfl (lv_at hl 1 rfl) ?_
  refine ct_Vi (As := [.int (nI k7)]) (rest := []) (wr := [(g, .inr (1, [.ref hn, .ref ha])), (hn, .inr (0, [.ref (adn 0), .ref (adn 1), .ref (adn 2), .ref (adn 3), .ref (adn 4), .ref (adn 5), .ref (adn 6), .int (nI (m_t σ)), .int (m_bro σ), .int (m_drd σ), .int (m_lef σ), .ref (adn 11), .ref (adn 12), .ref (adn 13), .ref (adn 14)])), ((adn 0), .inl (cI, 64, .inl hei)), ((adn 1), .inl (cI, 64, .inl (m_wat σ))), ((adn 2), .inl (cI, 64, .inl (m_dam σ))), ((adn 3), .inl (cI, 64, .inl (m_wea σ))), ((adn 4), .inl (cI, 64, .inl dra)), ((adn 5), .inl (cI, 64, .inl (m_peo σ))), ((adn 6), .inl (cI, 12, .inl rai)), ((adn 11), .inl (cI, 64, .inl cre)), ((adn 12), .inl (cI, 64, .inl gai)), ((adn 13), .inl (cI, 64, .inl see)), ((adn 14), .inl (cI, 64, .inl fou))]) (W1 := fun u => ((gW g hn ha) ++ ((pM hn adn cI hei dra rai σ cre gai see fou) ++ ((pM ha ada cI hei dra rai (q_hours hei dra rai k7 σ) u.1 u.2 (z 13) (z 14)))))) (cells1 := 2) (slots1 := 12) ⟨hx, hb, hml, hown, hts⟩ (c_X0_hours l D cI ha ada hei dra rai σ (z 11) (z 12) (z 13) (z 14) k7 (by omega) (by omega)) (cwV 1 hts gX1_foresee_X0_goHours rfl rfl rfl (by decide +kernel) ⟨Nat.le_of_ble_eq_true rfl, Nat.le_of_ble_eq_true rfl⟩) hK hP hD hS hA [13, 14, 15, 16, 17, 18, 19, 20, 21, 22, 23, 24] [0, 1, 2, 3, 4, 5, 6, 7, 8, 9, 10, 11, 12] ⟨rfl, rfl, rfl, rfl, rfl⟩ [0, 1, 2, 3, 4, 5, 6, 7, 8, 9, 10, 11, 12, 13, 14, 15, 16, 17, 18, 19, 20, 21, 22, 23, 24] rfl (fun _ => rfl) [0] rfl (va_recv hK hP (ci := 0) (q0 := 13) rfl rfl) rfl hl.1 rfl (Nat.le_of_ble_eq_true rfl) rfl rfl ⟨Nat.le_of_ble_eq_true rfl, Nat.le_of_ble_eq_true rfl⟩ dX1_foresee_30 (fun r u H locs hw hP hD hS => ?_)
  refine lv_pop hx hb dX1_foresee_33 rfl ?_
  refine lv_aload_n hx hb dX1_foresee_34 rfl (lv_at hl 0 rfl) ?_
  refine va_get (D := D) (ci := 1) (v := .ref ha) (C := RX1) (T := TX1) (N := 2) hx hb hts (fun _ h9 => (List.mem_cons_of_mem _ (List.mem_append_left _ (List.mem_append_left _ (List.mem_append_left _ (List.mem_append_right _ h9)))))) hown hK hP 0 rfl rfl 1 (by decide) (hts (Cond.fieldLink RX1 16 "FloodGrid" "ahead" "LFloodGrid$Plain;") (List.mem_of_getElem? (i := 1) rfl)) (fun _ h9 => h9) rfl dX1_foresee_35 ?_
  refine lv_iload_n hx hb dX1_foresee_38 rfl (lv_at hl 2 rfl) ?_
  obtain ⟨u0, hu0⟩ : ∃ y, y = u := ⟨_, rfl⟩
  subst hu0
  refine ct_Vi (As := [.int (nI k8)]) (rest := []) (wr := [(g, .inr (1, [.ref hn, .ref ha])), (hn, .inr (0, [.ref (adn 0), .ref (adn 1), .ref (adn 2), .ref (adn 3), .ref (adn 4), .ref (adn 5), .ref (adn 6), .int (nI (m_t σ)), .int (m_bro σ), .int (m_drd σ), .int (m_lef σ), .ref (adn 11), .ref (adn 12), .ref (adn 13), .ref (adn 14)])), ((adn 0), .inl (cI, 64, .inl hei)), ((adn 1), .inl (cI, 64, .inl (m_wat σ))), ((adn 2), .inl (cI, 64, .inl (m_dam σ))), ((adn 3), .inl (cI, 64, .inl (m_wea σ))), ((adn 4), .inl (cI, 64, .inl dra)), ((adn 5), .inl (cI, 64, .inl (m_peo σ))), ((adn 6), .inl (cI, 12, .inl rai)), ((adn 11), .inl (cI, 64, .inl cre)), ((adn 12), .inl (cI, 64, .inl gai)), ((adn 13), .inl (cI, 64, .inl see)), ((adn 14), .inl (cI, 64, .inl fou))]) (W1 := fun u => ((gW g hn ha) ++ ((pM hn adn cI hei dra rai σ cre gai see fou) ++ ((pM ha ada cI hei dra rai (q_hours hei dra rai k7 σ) u0.1 u0.2 u.1 u.2))))) (cells1 := 2) (slots1 := 12) ⟨hx, hb, hml, hown, hts⟩ (c_X0_tally l D cI ha ada hei dra rai (q_hours hei dra rai k7 σ) u0.1 u0.2 (z 13) (z 14) k8 (by omega)) (cwV 1 hts gX1_foresee_X0_tally rfl rfl rfl (by decide +kernel) ⟨Nat.le_of_ble_eq_true rfl, Nat.le_of_ble_eq_true rfl⟩) hK hP hD hS hA [13, 14, 15, 16, 17, 18, 19, 20, 21, 22, 23, 24] [0, 1, 2, 3, 4, 5, 6, 7, 8, 9, 10, 11, 12] ⟨rfl, rfl, rfl, rfl, rfl⟩ [0, 1, 2, 3, 4, 5, 6, 7, 8, 9, 10, 11, 12, 13, 14, 15, 16, 17, 18, 19, 20, 21, 22, 23, 24] rfl (fun _ => rfl) [0] rfl (va_recv hK hP (ci := 0) (q0 := 13) rfl rfl) rfl hl.1 rfl (Nat.le_of_ble_eq_true rfl) rfl rfl ⟨Nat.le_of_ble_eq_true rfl, Nat.le_of_ble_eq_true rfl⟩ dX1_foresee_39 (fun r u H locs hw hP hD hS => ?_)
  exact fin r (q_z hei (m_wat (q_hours hei dra rai k7 σ)) (m_dam (q_hours hei dra rai k7 σ)) (m_wea (q_hours hei dra rai k7 σ)) dra (m_peo (q_hours hei dra rai k7 σ)) rai (nI (m_t (q_hours hei dra rai k7 σ))) (m_bro (q_hours hei dra rai k7 σ)) (m_drd (q_hours hei dra rai k7 σ)) (m_lef (q_hours hei dra rai k7 σ)) u0.1 u0.2 u.1 u.2) H locs 2 12 42 ls dX1_foresee_42 ⟨hv, hq, hw⟩ hP hD hS (Nat.le_of_ble_eq_true rfl) (Nat.le_of_ble_eq_true rfl)
end
section
abbrev rm_X1_floods : Room := { frames := 8, cells := 2, slots := 12, locals := 133 }
set_option maxHeartbeats 4000000 in
set_option maxRecDepth 100000 in
theorem c_X1_floods (l : Launch) (hst : l.stackTraces = false) (D : va_G) (cI : ClassId) (sa1 sa2 : Nat) (g hn ha : Nat) (adn ada : Nat → Nat) (hei dra rai : Nat → Int32) (σ : Ms) (cre gai see fou : Nat → Int32) (z : Nat → Nat → Int32) (ht : m_t σ < 2 ^ 29) (x y : Int32) : cx_i (S := Nat → Nat → Int32) l D yX1_floods wsX1_floods rm_X1_floods [.ref g, .int x, .int y] ((gW g hn ha) ++ ((pM hn adn cI hei dra rai σ cre gai see fou) ++ ((pZ ha ada cI z)))) [(cI, .int)] sa1 sa2 (fun r _ => inC x y ∧ r = q_floods hei dra rai σ (q_at x y)) (fun u => (fW g hn ha adn ada cI hei dra rai σ cre gai see fou u)) (fun E => E = "java/lang/IndexOutOfBoundsException" ∧ ¬ inC x y) := by
  refine cx_ofi (cc := cX1_floods) (maxL := 5) (by decide) rfl (Nat.le_of_ble_eq_true rfl) ?_
  intro p e s m args below meth c A Q hx hb hml hown hts hA hK hT H locs hP hD hS fin finx ls hl
  have hown : s.vm.findClass RX1 = some m.cls := hown
  have hl : lv_has ls 5 [(0, .ref g), (1, .int x), (2, .int y)] := hl
  refine lv_iload_n hx hb dX1_floods_0 rfl (lv_at hl 1 rfl) ?_
  refine lv_iload_n hx hb dX1_floods_1 rfl (lv_at hl 2 rfl) ?_
  refine cx_Si (As := [.int x, .int y]) (rest := []) (wr := [(g, .inr (1, [.ref hn, .ref ha])), (hn, .inr (0, [.ref (adn 0), .ref (adn 1), .ref (adn 2), .ref (adn 3), .ref (adn 4), .ref (adn 5), .ref (adn 6), .int (nI (m_t σ)), .int (m_bro σ), .int (m_drd σ), .int (m_lef σ), .ref (adn 11), .ref (adn 12), .ref (adn 13), .ref (adn 14)])), ((adn 0), .inl (cI, 64, .inl hei)), ((adn 1), .inl (cI, 64, .inl (m_wat σ))), ((adn 2), .inl (cI, 64, .inl (m_dam σ))), ((adn 3), .inl (cI, 64, .inl (m_wea σ))), ((adn 4), .inl (cI, 64, .inl dra)), ((adn 5), .inl (cI, 64, .inl (m_peo σ))), ((adn 6), .inl (cI, 12, .inl rai)), ((adn 11), .inl (cI, 64, .inl cre)), ((adn 12), .inl (cI, 64, .inl gai)), ((adn 13), .inl (cI, 64, .inl see)), ((adn 14), .inl (cI, 64, .inl fou)), (ha, .inr (0, [.ref (ada 0), .ref (ada 1), .ref (ada 2), .ref (ada 3), .ref (ada 4), .ref (ada 5), .ref (ada 6), .int (z 7 0), .int (z 8 0), .int (z 9 0), .int (z 10 0), .ref (ada 11), .ref (ada 12), .ref (ada 13), .ref (ada 14)])), ((ada 0), .inl (cI, 64, .inl (z 0))), ((ada 1), .inl (cI, 64, .inl (z 1))), ((ada 2), .inl (cI, 64, .inl (z 2))), ((ada 3), .inl (cI, 64, .inl (z 3))), ((ada 4), .inl (cI, 64, .inl (z 4))), ((ada 5), .inl (cI, 64, .inl (z 5))), ((ada 6), .inl (cI, 12, .inl (z 6))), ((ada 11), .inl (cI, 64, .inl (z 11))), ((ada 12), .inl (cI, 64, .inl (z 12))), ((ada 13), .inl (cI, 64, .inl (z 13))), ((ada 14), .inl (cI, 64, .inl (z 14)))]) (W1 := fun u => ((gW g hn ha) ++ ((pM hn adn cI hei dra rai σ cre gai see fou) ++ ((pZ ha ada cI z))))) (cells1 := 2) (slots1 := 12) ⟨hx, hb, hml, hown, hts⟩ (c_place l hst D cI sa1 sa2 x y) (va_cwS 2 hts gX1_floods_X1_placeOf rfl rfl rfl (by decide +kernel) ⟨Nat.le_of_ble_eq_true rfl, Nat.le_of_ble_eq_true rfl⟩) hK hP hD hS hA hT [] [0, 1, 2, 3, 4, 5, 6, 7, 8, 9, 10, 11, 12, 13, 14, 15, 16, 17, 18, 19, 20, 21, 22, 23, 24] ⟨rfl, rfl, rfl, rfl, rfl⟩ [0, 1, 2, 3, 4, 5, 6, 7, 8, 9, 10, 11, 12, 13, 14, 15, 16, 17, 18, 19, 20, 21, 22, 23, 24] rfl (fun _ => rfl) [0, 1, 2, 3, 4, 5, 6, 7, 8, 9, 10, 11, 12, 13, 14, 15, 16, 17, 18, 19, 20, 21, 22, 23, 24] rfl rfl [0] rfl rfl hl.1 rfl (Nat.le_of_ble_eq_true rfl) rfl rfl ⟨Nat.le_of_ble_eq_true rfl, Nat.le_of_ble_eq_true rfl⟩ dX1_floods_2 (fun E ce q9 H locs hex hP hD hS hce hcv hcl => finx E ce q9 H locs 2 12 2 ls _ (hex) hP hD hS hce hcv hcl (Nat.le_of_ble_eq_true rfl) (Nat.le_of_ble_eq_true rfl)) (fun r u H locs hw hP hD hS => ?_)
  obtain ⟨hin, rfl⟩ := hw
  have hat := q_at_lt hin
  refine lv_istore_n (lv' := [(3, .int (nI (q_at x y))), (0, .ref g), (1, .int x), (2, .int y)]) hx hb dX1_floods_5 rfl hl (by decide) rfl (fun ls hl => ?_)
  refine lv_aload_n hx hb dX1_floods_6 rfl (lv_at hl 1 rfl) ?_
  refine va_get (D := D) (ci := 1) (v := .ref ha) (C := RX1) (T := TX1) (N := 2) hx hb hts (fun _ h9 => (List.mem_cons_of_mem _ (List.mem_append_left _ (List.mem_append_left _ (List.mem_append_right _ h9))))) hown hK hP 0 rfl rfl 1 (by decide) (hts (Cond.fieldLink RX1 16 "FloodGrid" "ahead" "LFloodGrid$Plain;") (List.mem_of_getElem? (i := 1) rfl)) (fun _ h9 => h9) rfl dX1_floods_7 ?_
  refine lv_aload_n hx hb dX1_floods_10 rfl (lv_at hl 1 rfl) ?_
  refine va_get (D := D) (ci := 1) (v := .ref hn) (C := RX1) (T := TX1) (N := 2) hx hb hts (fun _ h9 => (List.mem_cons_of_mem _ (List.mem_append_left _ (List.mem_append_left _ (List.mem_append_right _ h9))))) hown hK hP 0 rfl rfl 0 (by decide) (hts (Cond.fieldLink RX1 10 "FloodGrid" "now" "LFloodGrid$Plain;") (List.mem_of_getElem? (i := 2) rfl)) (fun _ h9 => h9) rfl dX1_floods_11 ?_
  refine ct_Vv (As := [.ref hn]) (rest := []) (wr := [(g, .inr (1, [.ref hn, .ref ha]))]) (W1 := fun u => ((gW g hn ha) ++ ((pM hn adn cI hei dra rai σ cre gai see fou) ++ ((pM ha ada cI hei dra rai σ (z 11) (z 12) (z 13) (z 14)))))) (cells1 := 2) (slots1 := 12) ⟨hx, hb, hml, hown, hts⟩ (c_X0_become l D cI ha ada (z 0) (z 1) (z 2) (z 3) (z 4) (z 5) (z 6) (z 7 0) (z 8 0) (z 9 0) (z 10 0) (z 11) (z 12) (z 13) (z 14) hn adn hei (m_wat σ) (m_dam σ) (m_wea σ) dra (m_peo σ) rai (nI (m_t σ)) (m_bro σ) (m_drd σ) (m_lef σ) cre gai see fou) (cwV 1 hts gX1_floods_X0_becomeLike rfl rfl rfl (by decide +kernel) ⟨Nat.le_of_ble_eq_true rfl, Nat.le_of_ble_eq_true rfl⟩) hK hP hD hS hA [13, 14, 15, 16, 17, 18, 19, 20, 21, 22, 23, 24, 1, 2, 3, 4, 5, 6, 7, 8, 9, 10, 11, 12] [0] ⟨rfl, rfl, rfl, rfl, rfl⟩ [0, 13, 14, 15, 16, 17, 18, 19, 20, 21, 22, 23, 24, 1, 2, 3, 4, 5, 6, 7, 8, 9, 10, 11, 12] rfl (fun _ => rfl) [0] rfl (va_recv hK hP (ci := 0) (q0 := 13) rfl rfl) rfl hl.1 rfl (Nat.le_of_ble_eq_true rfl) rfl rfl ⟨Nat.le_of_ble_eq_true rfl, Nat.le_of_ble_eq_true rfl⟩ dX1_floods_14 (fun u H locs hw hP hD hS => ?_)
  refine lv_aload_n hx hb dX1_floods_17 rfl (lv_at hl 1 rfl) ?_
  refine va_get (D := D) (ci := 1) (v := .ref ha) (C := RX1) (T := TX1) (N := 2) hx hb hts (fun _ h9 => (List.mem_cons_of_mem _ (List.mem_append_left _ (List.mem_append_left _ (List.mem_append_right _ h9))))) hown hK hP 0 rfl rfl 1 (by decide) (hts (Cond.fieldLink RX1 16 "FloodGrid" "ahead" "LFloodGrid$Plain;") (List.mem_of_getElem? (i := 1) rfl)) (fun _ h9 => h9) rfl dX1_floods_18 ?_
  refine va_get (D := D) (ci := 0) (v := .ref (ada 1)) (C := RX0) (T := TX0) (N := 15) hx hb hts (fun _ h9 => (List.mem_cons_of_mem _ (List.mem_append_left _ (List.mem_append_right _ h9)))) hown hK hP 13 rfl rfl 1 (by decide) (hts (Cond.fieldLink RX1 31 "FloodGrid$Plain" "water" "[I") (List.mem_of_getElem? (i := 3) rfl)) (fun _ h9 => h9) rfl dX1_floods_21 ?_
  refine lv_iload_n hx hb dX1_floods_24 rfl (lv_at hl 0 rfl) ?_
  refine ct_iald (v := (m_wat σ) (q_at x y)) hx hb hK hP 15 0 rfl rfl (q_at x y) rfl hat (by decide) rfl dX1_floods_25 ?_
  refine lv_iconst (v := 3) hx hb dX1_floods_26 (by decide) ?_
  refine lv_icmp_lt (tgt := 32) hx hb dX1_floods_27 (by decide) (fun hc => ?_) (fun hc => ?_)
  · skip
    refine lv_iconst (v := 1) hx hb dX1_floods_32 (by decide) ?_
    refine lv_istore (lv' := [(4, .int 1), (3, .int (nI (q_at x y))), (0, .ref g), (1, .int x), (2, .int y)]) hx hb dX1_floods_33 hl (by decide) rfl (fun ls hl => ?_)
    have loop : ∀ (fu i : Nat), i + fu = 48 → ∀ (c1 : Nat → Int32) (g1 : Nat → Int32) (H : Heap) (locs : List Loc) (ls : Array Slot), ((q_floods hei dra rai σ (q_at x y)) = q_seek hei dra rai (q_wet3 (q_at x y)) σ fu (i + 1)) → va_P D vwCl ((gW g hn ha) ++ ((pM hn adn cI hei dra rai σ cre gai see fou) ++ ((pM ha ada cI hei dra rai (q_hours hei dra rai i σ) c1 g1 (z 13) (z 14))))) H → va_D A ((gW g hn ha) ++ ((pM hn adn cI hei dra rai σ cre gai see fou) ++ ((pM ha ada cI hei dra rai (q_hours hei dra rai i σ) c1 g1 (z 13) (z 14))))) → va_S A s.heap H locs → lv_has ls 5 [(0, .ref g), (1, .int x), (2, .int y), (3, .int (nI (q_at x y))), (4, .int (nI (i + 1)))] → W p l e rm_X1_floods s m args below meth c H locs 2 12 Q (F0 m 35 ls []) := by
      intro fu
      induction fu with
      | zero =>
        intro i hi c1 g1 H locs ls hV hP hD hS hl
        obtain rfl : 48 = i := by omega
        refine lv_iload hx hb dX1_floods_35 (lv_at hl 4 rfl) ?_
        refine lv_bipush (v := 48) hx hb dX1_floods_37 (by decide) ?_
        refine lv_icmp_gt (tgt := 71) hx hb dX1_floods_39 (by decide) (fun hc2 => ?_) (fun hc2 => ?_)
        · skip
          refine lv_iconst (v := (-1)) hx hb dX1_floods_71 (by decide) ?_
          exact fin (-1) (q_z hei (m_wat (q_hours hei dra rai 48 σ)) (m_dam (q_hours hei dra rai 48 σ)) (m_wea (q_hours hei dra rai 48 σ)) dra (m_peo (q_hours hei dra rai 48 σ)) rai (nI (m_t (q_hours hei dra rai 48 σ))) (m_bro (q_hours hei dra rai 48 σ)) (m_drd (q_hours hei dra rai 48 σ)) (m_lef (q_hours hei dra rai 48 σ)) c1 g1 (z 13) (z 14)) H locs 2 12 72 ls dX1_floods_72 ⟨hin, hV.symm⟩ hP hD hS (Nat.le_of_ble_eq_true rfl) (Nat.le_of_ble_eq_true rfl)
        · skip
          exact absurd (show (48 : Int32) < nI (48 + 1) by decide) hc2
      | succ fu ih =>
        intro i hi c1 g1 H locs ls hV hP hD hS hl
        have hlt : i < 48 := by omega
        refine lv_iload hx hb dX1_floods_35 (lv_at hl 4 rfl) ?_
        refine lv_bipush (v := 48) hx hb dX1_floods_37 (by decide) ?_
        refine lv_icmp_gt (tgt := 71) hx hb dX1_floods_39 (by decide) (fun hc2 => ?_) (fun hc2 => ?_)
        · skip
          exact absurd hc2 (nI_nlt (b := i + 1) (a := 48) (by omega) (by decide))
        · skip
          refine lv_aload_n hx hb dX1_floods_42 rfl (lv_at hl 0 rfl) ?_
          refine va_get (D := D) (ci := 1) (v := .ref ha) (C := RX1) (T := TX1) (N := 2) hx hb hts (fun _ h9 => (List.mem_cons_of_mem _ (List.mem_append_left _ (List.mem_append_left _ (List.mem_append_right _ h9))))) hown hK hP 0 rfl rfl 1 (by decide) (hts (Cond.fieldLink RX1 16 "FloodGrid" "ahead" "LFloodGrid$Plain;") (List.mem_of_getElem? (i := 1) rfl)) (fun _ h9 => h9) rfl dX1_floods_43 ?_
          refine ct_Vv (As := []) (rest := []) (wr := [(g, .inr (1, [.ref hn, .ref ha])), (hn, .inr (0, [.ref (adn 0), .ref (adn 1), .ref (adn 2), .ref (adn 3), .ref (adn 4), .ref (adn 5), .ref (adn 6), .int (nI (m_t σ)), .int (m_bro σ), .int (m_drd σ), .int (m_lef σ), .ref (adn 11), .ref (adn 12), .ref (adn 13), .ref (adn 14)])), ((adn 0), .inl (cI, 64, .inl hei)), ((adn 1), .inl (cI, 64, .inl (m_wat σ))), ((adn 2), .inl (cI, 64, .inl (m_dam σ))), ((adn 3), .inl (cI, 64, .inl (m_wea σ))), ((adn 4), .inl (cI, 64, .inl dra)), ((adn 5), .inl (cI, 64, .inl (m_peo σ))), ((adn 6), .inl (cI, 12, .inl rai)), ((adn 11), .inl (cI, 64, .inl cre)), ((adn 12), .inl (cI, 64, .inl gai)), ((adn 13), .inl (cI, 64, .inl see)), ((adn 14), .inl (cI, 64, .inl fou))]) (W1 := fun u => ((gW g hn ha) ++ ((pM hn adn cI hei dra rai σ cre gai see fou) ++ ((pM ha ada cI hei dra rai (q_hours hei dra rai (i + 1) σ) u.1 u.2 (z 13) (z 14)))))) (cells1 := 2) (slots1 := 12) ⟨hx, hb, hml, hown, hts⟩ (c_X0_hour l D cI ha ada hei dra rai (q_hours hei dra rai i σ) c1 g1 (z 13) (z 14) (by rw [q_hours_t]; omega)) (cwV 0 hts gX1_floods_X0_goOneHour rfl rfl rfl (by decide +kernel) ⟨Nat.le_of_ble_eq_true rfl, Nat.le_of_ble_eq_true rfl⟩) hK hP hD hS hA [13, 14, 15, 16, 17, 18, 19, 20, 21, 22, 23, 24] [0, 1, 2, 3, 4, 5, 6, 7, 8, 9, 10, 11, 12] ⟨rfl, rfl, rfl, rfl, rfl⟩ [0, 1, 2, 3, 4, 5, 6, 7, 8, 9, 10, 11, 12, 13, 14, 15, 16, 17, 18, 19, 20, 21, 22, 23, 24] rfl (fun _ => rfl) [0] rfl (va_recv hK hP (ci := 0) (q0 := 13) rfl rfl) rfl hl.1 rfl (Nat.le_of_ble_eq_true rfl) rfl rfl ⟨Nat.le_of_ble_eq_true rfl, Nat.le_of_ble_eq_true rfl⟩ dX1_floods_46 (fun u H locs hw hP hD hS => ?_)
          refine lv_aload_n hx hb dX1_floods_49 rfl (lv_at hl 0 rfl) ?_
          refine va_get (D := D) (ci := 1) (v := .ref ha) (C := RX1) (T := TX1) (N := 2) hx hb hts (fun _ h9 => (List.mem_cons_of_mem _ (List.mem_append_left _ (List.mem_append_left _ (List.mem_append_right _ h9))))) hown hK hP 0 rfl rfl 1 (by decide) (hts (Cond.fieldLink RX1 16 "FloodGrid" "ahead" "LFloodGrid$Plain;") (List.mem_of_getElem? (i := 1) rfl)) (fun _ h9 => h9) rfl dX1_floods_50 ?_
          refine va_get (D := D) (ci := 0) (v := .ref (ada 1)) (C := RX0) (T := TX0) (N := 15) hx hb hts (fun _ h9 => (List.mem_cons_of_mem _ (List.mem_append_left _ (List.mem_append_right _ h9)))) hown hK hP 13 rfl rfl 1 (by decide) (hts (Cond.fieldLink RX1 31 "FloodGrid$Plain" "water" "[I") (List.mem_of_getElem? (i := 3) rfl)) (fun _ h9 => h9) rfl dX1_floods_53 ?_
          refine lv_iload_n hx hb dX1_floods_56 rfl (lv_at hl 3 rfl) ?_
          refine ct_iald (v := (m_wat (q_hours hei dra rai (i + 1) σ)) (q_at x y)) hx hb hK hP 15 0 rfl rfl (q_at x y) rfl hat (by decide) rfl dX1_floods_57 ?_
          refine lv_iconst (v := 3) hx hb dX1_floods_58 (by decide) ?_
          refine lv_icmp_lt (tgt := 65) hx hb dX1_floods_59 (by decide) (fun hc3 => ?_) (fun hc3 => ?_)
          · skip
            refine lv_iinc (v := (nI ((i + 1) + 1))) (lv' := [(4, .int (nI ((i + 1) + 1))), (0, .ref g), (1, .int x), (2, .int y), (3, .int (nI (q_at x y)))]) hx hb dX1_floods_65 hl (k := 4) rfl (nI_1 (i + 1)) (by decide) rfl (fun ls hl => ?_)
            refine lv_goto (tgt := 35) hx hb dX1_floods_68 (by decide) ?_
            exact ih (i + 1) (by omega) u.1 u.2 H locs ls (by rw [hV]; exact q_seek_no (Int32.not_le.mpr hc3)) hP hD hS (lv_sub hl [1, 2, 3, 4, 0] rfl)
          · skip
            refine lv_iload hx hb dX1_floods_62 (lv_at hl 4 rfl) ?_
            exact fin (nI (i + 1)) (q_z hei (m_wat (q_hours hei dra rai (i + 1) σ)) (m_dam (q_hours hei dra rai (i + 1) σ)) (m_wea (q_hours hei dra rai (i + 1) σ)) dra (m_peo (q_hours hei dra rai (i + 1) σ)) rai (nI (m_t (q_hours hei dra rai (i + 1) σ))) (m_bro (q_hours hei dra rai (i + 1) σ)) (m_drd (q_hours hei dra rai (i + 1) σ)) (m_lef (q_hours hei dra rai (i + 1) σ)) u.1 u.2 (z 13) (z 14)) H locs 2 12 64 ls dX1_floods_64 ⟨hin, (by rw [hV]; exact (q_seek_yes (Int32.not_lt.mp hc3)).symm)⟩ hP hD hS (Nat.le_of_ble_eq_true rfl) (Nat.le_of_ble_eq_true rfl)
    exact loop 48 0 (by omega) (z 11) (z 12) H locs ls (q_seek_no (Int32.not_le.mpr hc)) hP hD hS (lv_sub hl [2, 3, 4, 1, 0] rfl)
  · skip
    refine lv_iconst (v := 0) hx hb dX1_floods_30 (by decide) ?_
    exact fin 0 (q_z hei (m_wat σ) (m_dam σ) (m_wea σ) dra (m_peo σ) rai (nI (m_t σ)) (m_bro σ) (m_drd σ) (m_lef σ) (z 11) (z 12) (z 13) (z 14)) H locs 2 12 31 ls dX1_floods_31 ⟨hin, (q_seek_yes (n := 0) (Int32.not_lt.mp hc)).symm⟩ hP hD hS (Nat.le_of_ble_eq_true rfl) (Nat.le_of_ble_eq_true rfl)
abbrev rm_X1_breaks : Room := { frames := 8, cells := 2, slots := 12, locals := 133 }
set_option maxHeartbeats 4000000 in
set_option maxRecDepth 100000 in
theorem c_X1_breaks (l : Launch) (hst : l.stackTraces = false) (D : va_G) (cI : ClassId) (sa1 sa2 : Nat) (g hn ha : Nat) (adn ada : Nat → Nat) (hei dra rai : Nat → Int32) (σ : Ms) (cre gai see fou : Nat → Int32) (z : Nat → Nat → Int32) (ht : m_t σ < 2 ^ 29) (x y : Int32) : cx_i (S := Nat → Nat → Int32) l D yX1_breaks wsX1_breaks rm_X1_breaks [.ref g, .int x, .int y] ((gW g hn ha) ++ ((pM hn adn cI hei dra rai σ cre gai see fou) ++ ((pZ ha ada cI z)))) [(cI, .int)] sa1 sa2 (fun r _ => inC x y ∧ r = q_breaks hei dra rai σ (q_at x y)) (fun u => (fW g hn ha adn ada cI hei dra rai σ cre gai see fou u)) (fun E => E = "java/lang/IndexOutOfBoundsException" ∧ ¬ inC x y) := by
  refine cx_ofi (cc := cX1_breaks) (maxL := 5) (by decide) rfl (Nat.le_of_ble_eq_true rfl) ?_
  intro p e s m args below meth c A Q hx hb hml hown hts hA hK hT H locs hP hD hS fin finx ls hl
  have hown : s.vm.findClass RX1 = some m.cls := hown
  have hl : lv_has ls 5 [(0, .ref g), (1, .int x), (2, .int y)] := hl
  refine lv_iload_n hx hb dX1_breaks_0 rfl (lv_at hl 1 rfl) ?_
  refine lv_iload_n hx hb dX1_breaks_1 rfl (lv_at hl 2 rfl) ?_
  refine cx_Si (As := [.int x, .int y]) (rest := []) (wr := [(g, .inr (1, [.ref hn, .ref ha])), (hn, .inr (0, [.ref (adn 0), .ref (adn 1), .ref (adn 2), .ref (adn 3), .ref (adn 4), .ref (adn 5), .ref (adn 6), .int (nI (m_t σ)), .int (m_bro σ), .int (m_drd σ), .int (m_lef σ), .ref (adn 11), .ref (adn 12), .ref (adn 13), .ref (adn 14)])), ((adn 0), .inl (cI, 64, .inl hei)), ((adn 1), .inl (cI, 64, .inl (m_wat σ))), ((adn 2), .inl (cI, 64, .inl (m_dam σ))), ((adn 3), .inl (cI, 64, .inl (m_wea σ))), ((adn 4), .inl (cI, 64, .inl dra)), ((adn 5), .inl (cI, 64, .inl (m_peo σ))), ((adn 6), .inl (cI, 12, .inl rai)), ((adn 11), .inl (cI, 64, .inl cre)), ((adn 12), .inl (cI, 64, .inl gai)), ((adn 13), .inl (cI, 64, .inl see)), ((adn 14), .inl (cI, 64, .inl fou)), (ha, .inr (0, [.ref (ada 0), .ref (ada 1), .ref (ada 2), .ref (ada 3), .ref (ada 4), .ref (ada 5), .ref (ada 6), .int (z 7 0), .int (z 8 0), .int (z 9 0), .int (z 10 0), .ref (ada 11), .ref (ada 12), .ref (ada 13), .ref (ada 14)])), ((ada 0), .inl (cI, 64, .inl (z 0))), ((ada 1), .inl (cI, 64, .inl (z 1))), ((ada 2), .inl (cI, 64, .inl (z 2))), ((ada 3), .inl (cI, 64, .inl (z 3))), ((ada 4), .inl (cI, 64, .inl (z 4))), ((ada 5), .inl (cI, 64, .inl (z 5))), ((ada 6), .inl (cI, 12, .inl (z 6))), ((ada 11), .inl (cI, 64, .inl (z 11))), ((ada 12), .inl (cI, 64, .inl (z 12))), ((ada 13), .inl (cI, 64, .inl (z 13))), ((ada 14), .inl (cI, 64, .inl (z 14)))]) (W1 := fun u => ((gW g hn ha) ++ ((pM hn adn cI hei dra rai σ cre gai see fou) ++ ((pZ ha ada cI z))))) (cells1 := 2) (slots1 := 12) ⟨hx, hb, hml, hown, hts⟩ (c_place l hst D cI sa1 sa2 x y) (va_cwS 2 hts gX1_breaks_X1_placeOf rfl rfl rfl (by decide +kernel) ⟨Nat.le_of_ble_eq_true rfl, Nat.le_of_ble_eq_true rfl⟩) hK hP hD hS hA hT [] [0, 1, 2, 3, 4, 5, 6, 7, 8, 9, 10, 11, 12, 13, 14, 15, 16, 17, 18, 19, 20, 21, 22, 23, 24] ⟨rfl, rfl, rfl, rfl, rfl⟩ [0, 1, 2, 3, 4, 5, 6, 7, 8, 9, 10, 11, 12, 13, 14, 15, 16, 17, 18, 19, 20, 21, 22, 23, 24] rfl (fun _ => rfl) [0, 1, 2, 3, 4, 5, 6, 7, 8, 9, 10, 11, 12, 13, 14, 15, 16, 17, 18, 19, 20, 21, 22, 23, 24] rfl rfl [0] rfl rfl hl.1 rfl (Nat.le_of_ble_eq_true rfl) rfl rfl ⟨Nat.le_of_ble_eq_true rfl, Nat.le_of_ble_eq_true rfl⟩ dX1_breaks_2 (fun E ce q9 H locs hex hP hD hS hce hcv hcl => finx E ce q9 H locs 2 12 2 ls _ (hex) hP hD hS hce hcv hcl (Nat.le_of_ble_eq_true rfl) (Nat.le_of_ble_eq_true rfl)) (fun r u H locs hw hP hD hS => ?_)
  obtain ⟨hin, rfl⟩ := hw
  have hat := q_at_lt hin
  refine lv_istore_n (lv' := [(3, .int (nI (q_at x y))), (0, .ref g), (1, .int x), (2, .int y)]) hx hb dX1_breaks_5 rfl hl (by decide) rfl (fun ls hl => ?_)
  refine lv_aload_n hx hb dX1_breaks_6 rfl (lv_at hl 1 rfl) ?_
  refine va_get (D := D) (ci := 1) (v := .ref hn) (C := RX1) (T := TX1) (N := 2) hx hb hts (fun _ h9 => (List.mem_cons_of_mem _ (List.mem_append_left _ (List.mem_append_left _ (List.mem_append_right _ h9))))) hown hK hP 0 rfl rfl 0 (by decide) (hts (Cond.fieldLink RX1 10 "FloodGrid" "now" "LFloodGrid$Plain;") (List.mem_of_getElem? (i := 1) rfl)) (fun _ h9 => h9) rfl dX1_breaks_7 ?_
  refine va_get (D := D) (ci := 0) (v := .ref (adn 2)) (C := RX0) (T := TX0) (N := 15) hx hb hts (fun _ h9 => (List.mem_cons_of_mem _ (List.mem_append_left _ (List.mem_append_right _ h9)))) hown hK hP 1 rfl rfl 2 (by decide) (hts (Cond.fieldLink RX1 39 "FloodGrid$Plain" "dam" "[I") (List.mem_of_getElem? (i := 2) rfl)) (fun _ h9 => h9) rfl dX1_breaks_10 ?_
  refine lv_iload_n hx hb dX1_breaks_13 rfl (lv_at hl 0 rfl) ?_
  refine ct_iald (v := (m_dam σ) (q_at x y)) hx hb hK hP 4 0 rfl rfl (q_at x y) rfl hat (by decide) rfl dX1_breaks_14 ?_
  refine lv_if_ne (tgt := 20) hx hb dX1_breaks_15 (by decide) (fun hc => ?_) (fun hc => ?_)
  · skip
    refine lv_aload_n hx hb dX1_breaks_20 rfl (lv_at hl 1 rfl) ?_
    refine va_get (D := D) (ci := 1) (v := .ref ha) (C := RX1) (T := TX1) (N := 2) hx hb hts (fun _ h9 => (List.mem_cons_of_mem _ (List.mem_append_left _ (List.mem_append_left _ (List.mem_append_right _ h9))))) hown hK hP 0 rfl rfl 1 (by decide) (hts (Cond.fieldLink RX1 16 "FloodGrid" "ahead" "LFloodGrid$Plain;") (List.mem_of_getElem? (i := 3) rfl)) (fun _ h9 => h9) rfl dX1_breaks_21 ?_
    refine lv_aload_n hx hb dX1_breaks_24 rfl (lv_at hl 1 rfl) ?_
    refine va_get (D := D) (ci := 1) (v := .ref hn) (C := RX1) (T := TX1) (N := 2) hx hb hts (fun _ h9 => (List.mem_cons_of_mem _ (List.mem_append_left _ (List.mem_append_left _ (List.mem_append_right _ h9))))) hown hK hP 0 rfl rfl 0 (by decide) (hts (Cond.fieldLink RX1 10 "FloodGrid" "now" "LFloodGrid$Plain;") (List.mem_of_getElem? (i := 1) rfl)) (fun _ h9 => h9) rfl dX1_breaks_25 ?_
    refine ct_Vv (As := [.ref hn]) (rest := []) (wr := [(g, .inr (1, [.ref hn, .ref ha]))]) (W1 := fun u => ((gW g hn ha) ++ ((pM hn adn cI hei dra rai σ cre gai see fou) ++ ((pM ha ada cI hei dra rai σ (z 11) (z 12) (z 13) (z 14)))))) (cells1 := 2) (slots1 := 12) ⟨hx, hb, hml, hown, hts⟩ (c_X0_become l D cI ha ada (z 0) (z 1) (z 2) (z 3) (z 4) (z 5) (z 6) (z 7 0) (z 8 0) (z 9 0) (z 10 0) (z 11) (z 12) (z 13) (z 14) hn adn hei (m_wat σ) (m_dam σ) (m_wea σ) dra (m_peo σ) rai (nI (m_t σ)) (m_bro σ) (m_drd σ) (m_lef σ) cre gai see fou) (cwV 1 hts gX1_breaks_X0_becomeLike rfl rfl rfl (by decide +kernel) ⟨Nat.le_of_ble_eq_true rfl, Nat.le_of_ble_eq_true rfl⟩) hK hP hD hS hA [13, 14, 15, 16, 17, 18, 19, 20, 21, 22, 23, 24, 1, 2, 3, 4, 5, 6, 7, 8, 9, 10, 11, 12] [0] ⟨rfl, rfl, rfl, rfl, rfl⟩ [0, 13, 14, 15, 16, 17, 18, 19, 20, 21, 22, 23, 24, 1, 2, 3, 4, 5, 6, 7, 8, 9, 10, 11, 12] rfl (fun _ => rfl) [0] rfl (va_recv hK hP (ci := 0) (q0 := 13) rfl rfl) rfl hl.1 rfl (Nat.le_of_ble_eq_true rfl) rfl rfl ⟨Nat.le_of_ble_eq_true rfl, Nat.le_of_ble_eq_true rfl⟩ dX1_breaks_28 (fun u H locs hw hP hD hS => ?_)
    refine lv_iconst (v := 1) hx hb dX1_breaks_31 (by decide) ?_
    refine lv_istore (lv' := [(4, .int 1), (3, .int (nI (q_at x y))), (0, .ref g), (1, .int x), (2, .int y)]) hx hb dX1_breaks_32 hl (by decide) rfl (fun ls hl => ?_)
    have loop : ∀ (fu i : Nat), i + fu = 48 → ∀ (c1 : Nat → Int32) (g1 : Nat → Int32) (H : Heap) (locs : List Loc) (ls : Array Slot), ((q_breaks hei dra rai σ (q_at x y)) = q_seek hei dra rai (q_noDam (q_at x y)) σ fu (i + 1)) → va_P D vwCl ((gW g hn ha) ++ ((pM hn adn cI hei dra rai σ cre gai see fou) ++ ((pM ha ada cI hei dra rai (q_hours hei dra rai i σ) c1 g1 (z 13) (z 14))))) H → va_D A ((gW g hn ha) ++ ((pM hn adn cI hei dra rai σ cre gai see fou) ++ ((pM ha ada cI hei dra rai (q_hours hei dra rai i σ) c1 g1 (z 13) (z 14))))) → va_S A s.heap H locs → lv_has ls 5 [(0, .ref g), (1, .int x), (2, .int y), (3, .int (nI (q_at x y))), (4, .int (nI (i + 1)))] → W p l e rm_X1_breaks s m args below meth c H locs 2 12 Q (F0 m 34 ls []) := by
      intro fu
      induction fu with
      | zero =>
        intro i hi c1 g1 H locs ls hV hP hD hS hl
        obtain rfl : 48 = i := by omega
        refine lv_iload hx hb dX1_breaks_34 (lv_at hl 4 rfl) ?_
        refine lv_bipush (v := 48) hx hb dX1_breaks_36 (by decide) ?_
        refine lv_icmp_gt (tgt := 69) hx hb dX1_breaks_38 (by decide) (fun hc2 => ?_) (fun hc2 => ?_)
        · skip
          refine lv_iconst (v := (-1)) hx hb dX1_breaks_69 (by decide) ?_
          exact fin (-1) (q_z hei (m_wat (q_hours hei dra rai 48 σ)) (m_dam (q_hours hei dra rai 48 σ)) (m_wea (q_hours hei dra rai 48 σ)) dra (m_peo (q_hours hei dra rai 48 σ)) rai (nI (m_t (q_hours hei dra rai 48 σ))) (m_bro (q_hours hei dra rai 48 σ)) (m_drd (q_hours hei dra rai 48 σ)) (m_lef (q_hours hei dra rai 48 σ)) c1 g1 (z 13) (z 14)) H locs 2 12 70 ls dX1_breaks_70 ⟨hin, hV.symm⟩ hP hD hS (Nat.le_of_ble_eq_true rfl) (Nat.le_of_ble_eq_true rfl)
        · skip
          exact absurd (show (48 : Int32) < nI (48 + 1) by decide) hc2
      | succ fu ih =>
        intro i hi c1 g1 H locs ls hV hP hD hS hl
        have hlt : i < 48 := by omega
        refine lv_iload hx hb dX1_breaks_34 (lv_at hl 4 rfl) ?_
        refine lv_bipush (v := 48) hx hb dX1_breaks_36 (by decide) ?_
        refine lv_icmp_gt (tgt := 69) hx hb dX1_breaks_38 (by decide) (fun hc2 => ?_) (fun hc2 => ?_)
        · skip
          exact absurd hc2 (nI_nlt (b := i + 1) (a := 48) (by omega) (by decide))
        · skip
          refine lv_aload_n hx hb dX1_breaks_41 rfl (lv_at hl 0 rfl) ?_
          refine va_get (D := D) (ci := 1) (v := .ref ha) (C := RX1) (T := TX1) (N := 2) hx hb hts (fun _ h9 => (List.mem_cons_of_mem _ (List.mem_append_left _ (List.mem_append_left _ (List.mem_append_right _ h9))))) hown hK hP 0 rfl rfl 1 (by decide) (hts (Cond.fieldLink RX1 16 "FloodGrid" "ahead" "LFloodGrid$Plain;") (List.mem_of_getElem? (i := 3) rfl)) (fun _ h9 => h9) rfl dX1_breaks_42 ?_
          refine ct_Vv (As := []) (rest := []) (wr := [(g, .inr (1, [.ref hn, .ref ha])), (hn, .inr (0, [.ref (adn 0), .ref (adn 1), .ref (adn 2), .ref (adn 3), .ref (adn 4), .ref (adn 5), .ref (adn 6), .int (nI (m_t σ)), .int (m_bro σ), .int (m_drd σ), .int (m_lef σ), .ref (adn 11), .ref (adn 12), .ref (adn 13), .ref (adn 14)])), ((adn 0), .inl (cI, 64, .inl hei)), ((adn 1), .inl (cI, 64, .inl (m_wat σ))), ((adn 2), .inl (cI, 64, .inl (m_dam σ))), ((adn 3), .inl (cI, 64, .inl (m_wea σ))), ((adn 4), .inl (cI, 64, .inl dra)), ((adn 5), .inl (cI, 64, .inl (m_peo σ))), ((adn 6), .inl (cI, 12, .inl rai)), ((adn 11), .inl (cI, 64, .inl cre)), ((adn 12), .inl (cI, 64, .inl gai)), ((adn 13), .inl (cI, 64, .inl see)), ((adn 14), .inl (cI, 64, .inl fou))]) (W1 := fun u => ((gW g hn ha) ++ ((pM hn adn cI hei dra rai σ cre gai see fou) ++ ((pM ha ada cI hei dra rai (q_hours hei dra rai (i + 1) σ) u.1 u.2 (z 13) (z 14)))))) (cells1 := 2) (slots1 := 12) ⟨hx, hb, hml, hown, hts⟩ (c_X0_hour l D cI ha ada hei dra rai (q_hours hei dra rai i σ) c1 g1 (z 13) (z 14) (by rw [q_hours_t]; omega)) (cwV 0 hts gX1_breaks_X0_goOneHour rfl rfl rfl (by decide +kernel) ⟨Nat.le_of_ble_eq_true rfl, Nat.le_of_ble_eq_true rfl⟩) hK hP hD hS hA [13, 14, 15, 16, 17, 18, 19, 20, 21, 22, 23, 24] [0, 1, 2, 3, 4, 5, 6, 7, 8, 9, 10, 11, 12] ⟨rfl, rfl, rfl, rfl, rfl⟩ [0, 1, 2, 3, 4, 5, 6, 7, 8, 9, 10, 11, 12, 13, 14, 15, 16, 17, 18, 19, 20, 21, 22, 23, 24] rfl (fun _ => rfl) [0] rfl (va_recv hK hP (ci := 0) (q0 := 13) rfl rfl) rfl hl.1 rfl (Nat.le_of_ble_eq_true rfl) rfl rfl ⟨Nat.le_of_ble_eq_true rfl, Nat.le_of_ble_eq_true rfl⟩ dX1_breaks_45 (fun u H locs hw hP hD hS => ?_)
          refine lv_aload_n hx hb dX1_breaks_48 rfl (lv_at hl 0 rfl) ?_
          refine va_get (D := D) (ci := 1) (v := .ref ha) (C := RX1) (T := TX1) (N := 2) hx hb hts (fun _ h9 => (List.mem_cons_of_mem _ (List.mem_append_left _ (List.mem_append_left _ (List.mem_append_right _ h9))))) hown hK hP 0 rfl rfl 1 (by decide) (hts (Cond.fieldLink RX1 16 "FloodGrid" "ahead" "LFloodGrid$Plain;") (List.mem_of_getElem? (i := 3) rfl)) (fun _ h9 => h9) rfl dX1_breaks_49 ?_
          refine va_get (D := D) (ci := 0) (v := .ref (ada 2)) (C := RX0) (T := TX0) (N := 15) hx hb hts (fun _ h9 => (List.mem_cons_of_mem _ (List.mem_append_left _ (List.mem_append_right _ h9)))) hown hK hP 13 rfl rfl 2 (by decide) (hts (Cond.fieldLink RX1 39 "FloodGrid$Plain" "dam" "[I") (List.mem_of_getElem? (i := 2) rfl)) (fun _ h9 => h9) rfl dX1_breaks_52 ?_
          refine lv_iload_n hx hb dX1_breaks_55 rfl (lv_at hl 3 rfl) ?_
          refine ct_iald (v := (m_dam (q_hours hei dra rai (i + 1) σ)) (q_at x y)) hx hb hK hP 16 0 rfl rfl (q_at x y) rfl hat (by decide) rfl dX1_breaks_56 ?_
          refine lv_if_ne (tgt := 63) hx hb dX1_breaks_57 (by decide) (fun hc3 => ?_) (fun hc3 => ?_)
          · skip
            refine lv_iinc (v := (nI ((i + 1) + 1))) (lv' := [(4, .int (nI ((i + 1) + 1))), (0, .ref g), (1, .int x), (2, .int y), (3, .int (nI (q_at x y)))]) hx hb dX1_breaks_63 hl (k := 4) rfl (nI_1 (i + 1)) (by decide) rfl (fun ls hl => ?_)
            refine lv_goto (tgt := 34) hx hb dX1_breaks_66 (by decide) ?_
            exact ih (i + 1) (by omega) u.1 u.2 H locs ls (by rw [hV]; exact q_seek_no (hc3)) hP hD hS (lv_sub hl [1, 2, 3, 4, 0] rfl)
          · skip
            refine lv_iload hx hb dX1_breaks_60 (lv_at hl 4 rfl) ?_
            exact fin (nI (i + 1)) (q_z hei (m_wat (q_hours hei dra rai (i + 1) σ)) (m_dam (q_hours hei dra rai (i + 1) σ)) (m_wea (q_hours hei dra rai (i + 1) σ)) dra (m_peo (q_hours hei dra rai (i + 1) σ)) rai (nI (m_t (q_hours hei dra rai (i + 1) σ))) (m_bro (q_hours hei dra rai (i + 1) σ)) (m_drd (q_hours hei dra rai (i + 1) σ)) (m_lef (q_hours hei dra rai (i + 1) σ)) u.1 u.2 (z 13) (z 14)) H locs 2 12 62 ls dX1_breaks_62 ⟨hin, (by rw [hV]; exact (q_seek_yes (hc3)).symm)⟩ hP hD hS (Nat.le_of_ble_eq_true rfl) (Nat.le_of_ble_eq_true rfl)
    exact loop 48 0 (by omega) (z 11) (z 12) H locs ls (by unfold q_breaks; rw [if_neg hc]) hP hD hS (lv_sub hl [2, 3, 4, 1, 0] rfl)
  · skip
    refine lv_iconst (v := (-1)) hx hb dX1_breaks_18 (by decide) ?_
    exact fin (-1) z H locs 2 12 19 ls dX1_breaks_19 ⟨hin, (by unfold q_breaks; rw [if_pos hc])⟩ hP hD hS (Nat.le_of_ble_eq_true rfl) (Nat.le_of_ble_eq_true rfl)
end
section
/-- the mean: nothing drawn where no cell is wet -/
def q_mean (wat : Nat → Int32) (r : UInt64) : Prop := (q_sum (q_pos wat) 64 = 0 ∧ r = FP.dconst0) ∨ (¬ q_sum (q_pos wat) 64 = 0 ∧ alike64 r (FP.ddiv (FP.i2d (q_sum wat 64)) (FP.i2d (q_sum (q_pos wat) 64))) = true)
def ct_d {S : Type} (l : Launch) (D : va_G) (y : MethodName) (ws : List Cond) (rm : Room) (As : List Value) (wc : va_W) (tys : List (ClassId × FieldType)) (post : UInt64 → S → Prop) (wo : S → va_W) : Prop := ∀ sz : Nat, MetD lw_cs l y ws rm (ct_Pc D As wc tys sz) (va_Qd post (ct_B D tys (va_A wc sz) wo) (va_A wc sz)) rm.cells rm.slots (va_A wc sz)
def ct_Bd {S : Type} (l : Launch) (D : va_G) (y : MethodName) (ws : List Cond) (rm : Room) (cc : ByteArray) (maxL : Nat) (As : List Value) (wc : va_W) (tys : List (ClassId × FieldType)) (post : UInt64 → S → Prop) (wo : S → va_W) : Prop :=
  ∀ (p : Program) (e : Env) (s : State) (m : MethodId) (args : Array Value) (below : List Frame) (meth : Method) (c : Code) (A : Nat → Prop) (Q : State → Prop), p.tables.exec = Jvm.exec → c.code = cc → c.maxLocals = maxL → s.vm.findClass y.cls = some m.cls → (∀ w ∈ ws, w.before args (s.setDrawn s.drawn) = true) → (∀ q : Nat, s.heap.size ≤ q → A q) →
    va_K D vwCl tys (s.setDrawn s.drawn) → ∀ (H : Heap) (locs : List Loc), va_P D vwCl wc H → va_D A wc → va_S A (s.setDrawn s.drawn).heap H locs →
    (∀ (v : UInt64) (d1 : Drawn) (u : S) (H : Heap) (locs : List Loc) (cells slots pc : Nat) (ls : Array Slot), s.drawn.sameBut d1 lw_cs → decode cc pc = .ok (.dreturn, 1) → post v u → va_P D vwCl (wo u) H → va_D A (wo u) → va_S A s.heap H locs → cells ≤ rm.cells → slots ≤ rm.slots → W p l e rm (s.setDrawn d1) m args below meth c H locs cells slots Q (F0 m pc ls [.double v])) →
    ∀ ls : Array Slot, lv_has ls maxL (lv_args 0 As) → W p l e rm (s.setDrawn s.drawn) m args below meth c H locs 0 0 Q (F0 m 0 ls [])
theorem ct_ofd {S : Type} {l : Launch} {D : va_G} {y : MethodName} {ws ws' : List Cond} {rm : Room} {cc : ByteArray} {maxL : Nat} {As : List Value} {wc : va_W} {tys : List (ClassId × FieldType)} {post : UInt64 → S → Prop} {wo : S → va_W}
    (hy : plainName y.cls = true) (hw : ws = Cond.code y cc maxL (some .double) :: ws') (hln : (lg_sl As).length ≤ maxL) (body : ct_Bd l D y ws rm cc maxL As wc tys post wo) : ct_d l D y ws rm As wc tys post wo := by
  intro sz
  refine MetD.ofW (cc := cc) (maxL := maxL) (ret := some .double) hy hw ?_
  intro p e s m args below meth c s₁ B hml hv hd0
  obtain ⟨rfl, hsz, hP, hK, hD0⟩ := hv
  subst hsz
  have hD := hD0.self (sz := s.heap.size)
  have hl := lv_entry As (n := maxL) hln
  rw [lg_entry_eq]
  have hx := B.exec
  have hb := B.bytes
  have hr := B.returns
  have hlocks := B.notSynchronized
  exact body p e s m As.toArray below meth c (va_A wc s.heap.size) _ hx hb hml (findClass_of_methodNamed B.named) (dr_words (atoms_spec (ws := ws) B.pre) _) (fun q h => Or.inr h) hK s.heap [] hP hD va_S.rf
    (fun v d1 u H locs cells slots pc ls hd1 hdg hq hP hD hS hc hs => W.endD hd1 (W.widen hc hs (W.dret (v := v) hx hb hr (fun t ht hW => ⟨⟨v, u, rfl, hq, by rw [ht]; exact hP, va_K.moved hW.alike hK, hD⟩, hS.F ht⟩) hS.2.2 hdg hlocks))) _ hl
abbrev rm_X1_mean : Room := { frames := 2, cells := 0, slots := 0, locals := 46 }
set_option maxHeartbeats 4000000 in
set_option maxRecDepth 100000 in
theorem c_X1_mean (l : Launch) (D : va_G) (cI : ClassId) (g hn ha : Nat) (adn ada : Nat → Nat) (hei dra rai : Nat → Int32) (σ : Ms) (cre gai see fou : Nat → Int32) (z : Nat → Nat → Int32) : ct_d (S := Unit) l D yX1_mean wsX1_mean rm_X1_mean [.ref g] ((gW g hn ha) ++ ((pM hn adn cI hei dra rai σ cre gai see fou) ++ ((pZ ha ada cI z)))) [(cI, .int)] (fun r _ => q_mean (m_wat σ) r) (fun _ => (fW g hn ha adn ada cI hei dra rai σ cre gai see fou z)) := by
  refine ct_ofd (cc := cX1_mean) (maxL := 2) (by decide) rfl (Nat.le_of_ble_eq_true rfl) ?_
  intro p e s m args below meth c A Q hx hb hml hown hts hA hK H locs hP hD hS fin ls hl
  have hown : (s.setDrawn s.drawn).vm.findClass RX1 = some m.cls := hown
  have hd0 := Drawn.sameBut.refl s.drawn lw_cs
  have hl : lv_has ls 2 [(0, .ref g)] := hl
  refine lv_aload_n hx hb dX1_mean_0 rfl (lv_at hl 0 rfl) ?_
  refine va_get (D := D) (ci := 1) (v := .ref hn) (C := RX1) (T := TX1) (N := 2) hx hb hts (fun _ h9 => (List.mem_cons_of_mem _ (List.mem_append_left _ (List.mem_append_right _ h9)))) hown hK hP 0 rfl rfl 0 (by decide) (hts (Cond.fieldLink RX1 10 "FloodGrid" "now" "LFloodGrid$Plain;") (List.mem_of_getElem? (i := 1) rfl)) (fun _ h9 => h9) rfl dX1_mean_1 ?_
  refine ct_Vi (As := []) (rest := []) (wr := [(g, .inr (1, [.ref hn, .ref ha])), (ha, .inr (0, [.ref (ada 0), .ref (ada 1), .ref (ada 2), .ref (ada 3), .ref (ada 4), .ref (ada 5), .ref (ada 6), .int (z 7 0), .int (z 8 0), .int (z 9 0), .int (z 10 0), .ref (ada 11), .ref (ada 12), .ref (ada 13), .ref (ada 14)])), ((ada 0), .inl (cI, 64, .inl (z 0))), ((ada 1), .inl (cI, 64, .inl (z 1))), ((ada 2), .inl (cI, 64, .inl (z 2))), ((ada 3), .inl (cI, 64, .inl (z 3))), ((ada 4), .inl (cI, 64, .inl (z 4))), ((ada 5), .inl (cI, 64, .inl (z 5))), ((ada 6), .inl (cI, 12, .inl (z 6))), ((ada 11), .inl (cI, 64, .inl (z 11))), ((ada 12), .inl (cI, 64, .inl (z 12))), ((ada 13), .inl (cI, 64, .inl (z 13))), ((ada 14), .inl (cI, 64, .inl (z 14)))]) (W1 := fun u => ((gW g hn ha) ++ ((pM hn adn cI hei dra rai σ cre gai see fou) ++ ((pZ ha ada cI z))))) (cells1 := 0) (slots1 := 0) ⟨hx, hb, hml, hown, hts⟩ (c_X0_wet l D cI hn adn hei (m_wat σ) (m_dam σ) (m_wea σ) dra (m_peo σ) rai (nI (m_t σ)) (m_bro σ) (m_drd σ) (m_lef σ) cre gai see fou) (cwV 0 hts gX1_mean_X0_wetCells rfl rfl rfl (by decide +kernel) ⟨Nat.le_of_ble_eq_true rfl, Nat.le_of_ble_eq_true rfl⟩) hK hP hD hS hA [1, 2, 3, 4, 5, 6, 7, 8, 9, 10, 11, 12] [0, 13, 14, 15, 16, 17, 18, 19, 20, 21, 22, 23, 24] ⟨rfl, rfl, rfl, rfl, rfl⟩ [0, 13, 14, 15, 16, 17, 18, 19, 20, 21, 22, 23, 24, 1, 2, 3, 4, 5, 6, 7, 8, 9, 10, 11, 12] rfl (fun _ => rfl) [0] rfl (va_recv hK hP (ci := 0) (q0 := 1) rfl rfl) rfl hl.1 rfl (Nat.le_of_ble_eq_true rfl) rfl rfl ⟨Nat.le_of_ble_eq_true rfl, Nat.le_of_ble_eq_true rfl⟩ dX1_mean_4 (fun r u H locs hw hP hD hS => ?_)
  subst hw
  refine lv_istore_n (lv' := [(1, .int (q_sum (q_pos (m_wat σ)) 64)), (0, .ref g)]) hx hb dX1_mean_7 rfl hl (by decide) rfl (fun ls hl => ?_)
  refine lv_iload_n hx hb dX1_mean_8 rfl (lv_at hl 0 rfl) ?_
  refine lv_if_ne (tgt := 14) hx hb dX1_mean_9 (by decide) (fun hc => ?_) (fun hc => ?_)
  · skip
    refine lv_aload_n hx hb dX1_mean_14 rfl (lv_at hl 1 rfl) ?_
    refine va_get (D := D) (ci := 1) (v := .ref hn) (C := RX1) (T := TX1) (N := 2) hx hb hts (fun _ h9 => (List.mem_cons_of_mem _ (List.mem_append_left _ (List.mem_append_right _ h9)))) hown hK hP 0 rfl rfl 0 (by decide) (hts (Cond.fieldLink RX1 10 "FloodGrid" "now" "LFloodGrid$Plain;") (List.mem_of_getElem? (i := 1) rfl)) (fun _ h9 => h9) rfl dX1_mean_15 ?_
    refine lv_aload_n hx hb dX1_mean_18 rfl (lv_at hl 1 rfl) ?_
    refine va_get (D := D) (ci := 1) (v := .ref hn) (C := RX1) (T := TX1) (N := 2) hx hb hts (fun _ h9 => (List.mem_cons_of_mem _ (List.mem_append_left _ (List.mem_append_right _ h9)))) hown hK hP 0 rfl rfl 0 (by decide) (hts (Cond.fieldLink RX1 10 "FloodGrid" "now" "LFloodGrid$Plain;") (List.mem_of_getElem? (i := 1) rfl)) (fun _ h9 => h9) rfl dX1_mean_19 ?_
    refine va_get (D := D) (ci := 0) (v := .ref (adn 1)) (C := RX0) (T := TX0) (N := 15) hx hb hts (fun _ h9 => (List.mem_cons_of_mem _ (List.mem_append_right _ h9))) hown hK hP 1 rfl rfl 1 (by decide) (hts (Cond.fieldLink RX1 31 "FloodGrid$Plain" "water" "[I") (List.mem_of_getElem? (i := 2) rfl)) (fun _ h9 => h9) rfl dX1_mean_22 ?_
    refine ct_Vi (As := [.ref (adn 1)]) (rest := []) (wr := [(g, .inr (1, [.ref hn, .ref ha])), (hn, .inr (0, [.ref (adn 0), .ref (adn 1), .ref (adn 2), .ref (adn 3), .ref (adn 4), .ref (adn 5), .ref (adn 6), .int (nI (m_t σ)), .int (m_bro σ), .int (m_drd σ), .int (m_lef σ), .ref (adn 11), .ref (adn 12), .ref (adn 13), .ref (adn 14)])), ((adn 0), .inl (cI, 64, .inl hei)), ((adn 2), .inl (cI, 64, .inl (m_dam σ))), ((adn 3), .inl (cI, 64, .inl (m_wea σ))), ((adn 4), .inl (cI, 64, .inl dra)), ((adn 5), .inl (cI, 64, .inl (m_peo σ))), ((adn 6), .inl (cI, 12, .inl rai)), ((adn 11), .inl (cI, 64, .inl cre)), ((adn 12), .inl (cI, 64, .inl gai)), ((adn 13), .inl (cI, 64, .inl see)), ((adn 14), .inl (cI, 64, .inl fou)), (ha, .inr (0, [.ref (ada 0), .ref (ada 1), .ref (ada 2), .ref (ada 3), .ref (ada 4), .ref (ada 5), .ref (ada 6), .int (z 7 0), .int (z 8 0), .int (z 9 0), .int (z 10 0), .ref (ada 11), .ref (ada 12), .ref (ada 13), .ref (ada 14)])), ((ada 0), .inl (cI, 64, .inl (z 0))), ((ada 1), .inl (cI, 64, .inl (z 1))), ((ada 2), .inl (cI, 64, .inl (z 2))), ((ada 3), .inl (cI, 64, .inl (z 3))), ((ada 4), .inl (cI, 64, .inl (z 4))), ((ada 5), .inl (cI, 64, .inl (z 5))), ((ada 6), .inl (cI, 12, .inl (z 6))), ((ada 11), .inl (cI, 64, .inl (z 11))), ((ada 12), .inl (cI, 64, .inl (z 12))), ((ada 13), .inl (cI, 64, .inl (z 13))), ((ada 14), .inl (cI, 64, .inl (z 14)))]) (W1 := fun u => ((gW g hn ha) ++ ((pM hn adn cI hei dra rai σ cre gai see fou) ++ ((pZ ha ada cI z))))) (cells1 := 0) (slots1 := 0) ⟨hx, hb, hml, hown, hts⟩ (c_X0_sum l D cI hn (adn 1) 64 (by decide) (m_wat σ)) (cwV 1 hts gX1_mean_X0_sum rfl rfl rfl (by decide +kernel) ⟨Nat.le_of_ble_eq_true rfl, Nat.le_of_ble_eq_true rfl⟩) hK hP hD hS hA [3] [0, 1, 2, 4, 5, 6, 7, 8, 9, 10, 11, 12, 13, 14, 15, 16, 17, 18, 19, 20, 21, 22, 23, 24] ⟨rfl, rfl, rfl, rfl, rfl⟩ [0, 1, 2, 24, 3, 4, 5, 6, 7, 8, 9, 10, 11, 12, 13, 14, 15, 16, 17, 18, 19, 20, 21, 22, 23] rfl (fun _ => rfl) [0] rfl (va_recv hK hP (ci := 0) (q0 := 1) rfl rfl) rfl hl.1 rfl (Nat.le_of_ble_eq_true rfl) rfl rfl ⟨Nat.le_of_ble_eq_true rfl, Nat.le_of_ble_eq_true rfl⟩ dX1_mean_25 (fun r u H locs hw hP hD hS => ?_)
    subst hw
    refine lv_i2d hx hb dX1_mean_28 ?_
    refine lv_iload_n hx hb dX1_mean_29 rfl (lv_at hl 0 rfl) ?_
    refine lv_i2d hx hb dX1_mean_30 ?_
    refine lv_ddiv_any hd0 lw_bits hx hb dX1_mean_31 (fun rr d1 hal hd1 => ?_)
    exact fin rr d1 () H locs 0 0 32 ls hd1 dX1_mean_32 (Or.inr ⟨hc, hal⟩) hP hD hS (Nat.le_of_ble_eq_true rfl) (Nat.le_of_ble_eq_true rfl)
  · skip
    refine lv_dconst0 hx hb dX1_mean_12 ?_
    exact fin FP.dconst0 s.drawn () H locs 0 0 13 ls hd0 dX1_mean_13 (Or.inl ⟨hc, rfl⟩) hP hD hS (Nat.le_of_ble_eq_true rfl) (Nat.le_of_ble_eq_true rfl)
abbrev rm_X1_init : Room := { frames := 2, cells := 24, slots := 1334, locals := 43 }
/-- the plain at first -/
def q_m0 : Ms := ((fun _ => 0), (fun _ => 0), (fun _ => 0), (fun _ => 0), 0, 0, 0, 0)
def q_z0 : Nat → Nat → Int32 := (q_z (fun _ => 10) (fun _ => 0) (fun _ => 0) (fun _ => 0) (fun _ => 0) (fun _ => 0) (fun _ => 0) 0 0 0 0 (fun _ => 0) (fun _ => 0) (fun _ => 0) (fun _ => 0))
set_option maxHeartbeats 4000000 in
set_option maxRecDepth 100000 in
theorem c_X1_init (l : Launch) (D : va_G) (cI : ClassId) (g : Nat) : ct_v (S := Nat × Nat × (Nat → Nat) × (Nat → Nat)) l D yX1_init wsX1_init rm_X1_init [.ref g] ([(g, .inr (1, [.null, .null]))]) [(cI, .int)] (fun _ => True) (fun u => (fW g u.1 u.2.1 u.2.2.1 u.2.2.2 cI (fun _ => 10) (fun _ => 0) (fun _ => 0) q_m0 (fun _ => 0) (fun _ => 0) (fun _ => 0) (fun _ => 0) q_z0)) := by
  refine ct_ofv (cc := cX1_init) (maxL := 1) (by decide) rfl (Nat.le_of_ble_eq_true rfl) ?_
  intro p e s m args below meth c A Q hx hb hml hown hts hin hA hK H locs hP hD hS fin ls hl
  have hown : s.vm.findClass RX1 = some m.cls := hown
  have hl : lv_has ls 1 [(0, .ref g)] := hl
  refine lv_aload_n hx hb dX1_init_0 rfl (lv_at hl 0 rfl) ?_
  refine W.objInit hx hb hown (hts (Cond.methodLink RX1 1 objectInit) (List.mem_of_getElem? (i := 1) rfl)) (hts (Cond.instanceMethod objectInit) (List.mem_of_getElem? (i := 2) rfl)) (hts (Cond.code objectInit ⟨#[0xb1]⟩ 1 none) (List.mem_of_getElem? (i := 3) rfl)) rfl (by rw [hml]; exact hl.1) rfl dX1_init_1 (Nat.le_of_ble_eq_true rfl) (Nat.le_of_ble_eq_true rfl) ?_
  refine W.eq (g2 := F0 m 4 ls []) rfl ?_
  refine lv_aload_n hx hb dX1_init_4 rfl (lv_at hl 0 rfl) ?_
  refine va_new (ci := 0) (fs := [.null, .null, .null, .null, .null, .null, .null, .int 0, .int 0, .int 0, .int 0, .null, .null, .null, .null]) (C := RX0) (T := TX0) (N := 15) hx hb hts (fun _ h9 => (List.mem_cons_of_mem _ (List.mem_append_left _ (List.mem_append_right _ h9)))) tyX0 tyX0_ok hown (hts (Cond.classLink RX1 7 RX0) (List.mem_of_getElem? (i := 4) rfl)) (hts (Cond.instantiable RX0 15) (List.mem_of_getElem? (i := 5) rfl)) (hts (Cond.initialized RX0) (List.mem_of_getElem? (i := 6) rfl)) hK hP hD hS hA rfl (fun j hj => by rcases (show j = 0 ∨ j = 1 ∨ j = 2 ∨ j = 3 ∨ j = 4 ∨ j = 5 ∨ j = 6 ∨ j = 7 ∨ j = 8 ∨ j = 9 ∨ j = 10 ∨ j = 11 ∨ j = 12 ∨ j = 13 ∨ j = 14 by omega) with rfl | rfl | rfl | rfl | rfl | rfl | rfl | rfl | rfl | rfl | rfl | rfl | rfl | rfl | rfl <;> rfl) (Nat.le_of_ble_eq_true rfl) (Nat.le_of_ble_eq_true rfl) dX1_init_5 (fun qn H hP hD hS => ?_)
  have hP : va_P D vwCl (([(g, .inr (1, [.null, .null]))]) ++ ([(qn, .inr (0, [.null, .null, .null, .null, .null, .null, .null, .int 0, .int 0, .int 0, .int 0, .null, .null, .null, .null]))])) H := hP
  have hD : va_D A (([(g, .inr (1, [.null, .null]))]) ++ ([(qn, .inr (0, [.null, .null, .null, .null, .null, .null, .null, .int 0, .int 0, .int 0, .int 0, .null, .null, .null, .null]))])) := hD
  refine lv_dup hx hb dX1_init_8 rfl ?_
  refine ct_Iv (As := []) (rest := [.ref qn, .ref g]) (wr := [(g, .inr (1, [.null, .null]))]) (W1 := fun u => (([(g, .inr (1, [.null, .null]))]) ++ (pW qn u cI (fun _ => 10) (fun _ => 0) (fun _ => 0) (fun _ => 0) (fun _ => 0) (fun _ => 0) (fun _ => 0) 0 0 0 0 (fun _ => 0) (fun _ => 0) (fun _ => 0) (fun _ => 0)))) (cells1 := 12) (slots1 := 667) ⟨hx, hb, hml, hown, hts⟩ (c_X0_init l D cI qn) (cwI 0 hts gX1_init_X0_init rfl rfl rfl (hts (Cond.initialized RX0) (List.mem_of_getElem? (i := 6) rfl)) (hts (Cond.methodLink RX1 9 yX0_init) (List.mem_of_getElem? (i := 9) rfl)) (hts (Cond.instanceMethod yX0_init) (List.mem_of_getElem? (i := 10) rfl)) rfl (by decide +kernel) ⟨Nat.le_of_ble_eq_true rfl, Nat.le_of_ble_eq_true rfl⟩) hK hP hD hS hA [1] [0] ⟨rfl, rfl, rfl, rfl, rfl⟩ [0, 1, 2, 3, 4, 5, 6, 7, 8, 9, 10, 11, 12] rfl (fun _ => rfl) [0] rfl rfl hl.1 rfl (Nat.le_of_ble_eq_true rfl) rfl rfl ⟨Nat.le_of_ble_eq_true rfl, Nat.le_of_ble_eq_true rfl⟩ dX1_init_9 (fun u H locs hw hP hD hS => ?_)
  obtain ⟨an, hu0⟩ : ∃ y, y = u := ⟨_, rfl⟩
  subst hu0
  have hP : va_P D vwCl (([(g, .inr (1, [.null, .null]))]) ++ (pW qn an cI (fun _ => 10) (fun _ => 0) (fun _ => 0) (fun _ => 0) (fun _ => 0) (fun _ => 0) (fun _ => 0) 0 0 0 0 (fun _ => 0) (fun _ => 0) (fun _ => 0) (fun _ => 0))) H := hP
  have hD : va_D A (([(g, .inr (1, [.null, .null]))]) ++ (pW qn an cI (fun _ => 10) (fun _ => 0) (fun _ => 0) (fun _ => 0) (fun _ => 0) (fun _ => 0) (fun _ => 0) 0 0 0 0 (fun _ => 0) (fun _ => 0) (fun _ => 0) (fun _ => 0))) := hD
  refine va_putF (D := D) (ci := 1) (v := .ref qn) (ty := .object "FloodGrid$Plain") (C := RX1) (T := TX1) (N := 2) hx hb hts (fun _ h9 => (List.mem_cons_of_mem _ (List.mem_append_right _ h9))) tyX1 tyX1_ok nmX1 hown hK hP hD hS 0 rfl rfl 0 (by decide) (hts (Cond.fieldLink RX1 10 "FloodGrid" "now" "LFloodGrid$Plain;") (List.mem_of_getElem? (i := 7) rfl)) (fun _ h9 => h9) rfl hin rfl (by decide +kernel) rfl rfl (Nat.le_of_ble_eq_true rfl) dX1_init_12 (fun H locs hP hD hS => ?_)
  have hP : va_P D vwCl (([(g, .inr (1, [.ref qn, .null]))]) ++ (pW qn an cI (fun _ => 10) (fun _ => 0) (fun _ => 0) (fun _ => 0) (fun _ => 0) (fun _ => 0) (fun _ => 0) 0 0 0 0 (fun _ => 0) (fun _ => 0) (fun _ => 0) (fun _ => 0))) H := hP
  have hD : va_D A (([(g, .inr (1, [.ref qn, .null]))]) ++ (pW qn an cI (fun _ => 10) (fun _ => 0) (fun _ => 0) (fun _ => 0) (fun _ => 0) (fun _ => 0) (fun _ => 0) 0 0 0 0 (fun _ => 0) (fun _ => 0) (fun _ => 0) (fun _ => 0))) := hD
  refine lv_aload_n hx hb dX1_init_15 rfl (lv_at hl 0 rfl) ?_
  refine va_new (ci := 0) (fs := [.null, .null, .null, .null, .null, .null, .null, .int 0, .int 0, .int 0, .int 0, .null, .null, .null, .null]) (C := RX0) (T := TX0) (N := 15) hx hb hts (fun _ h9 => (List.mem_cons_of_mem _ (List.mem_append_left _ (List.mem_append_right _ h9)))) tyX0 tyX0_ok hown (hts (Cond.classLink RX1 7 RX0) (List.mem_of_getElem? (i := 4) rfl)) (hts (Cond.instantiable RX0 15) (List.mem_of_getElem? (i := 5) rfl)) (hts (Cond.initialized RX0) (List.mem_of_getElem? (i := 6) rfl)) hK hP hD hS hA rfl (fun j hj => by rcases (show j = 0 ∨ j = 1 ∨ j = 2 ∨ j = 3 ∨ j = 4 ∨ j = 5 ∨ j = 6 ∨ j = 7 ∨ j = 8 ∨ j = 9 ∨ j = 10 ∨ j = 11 ∨ j = 12 ∨ j = 13 ∨ j = 14 by omega) with rfl | rfl | rfl | rfl | rfl | rfl | rfl | rfl | rfl | rfl | rfl | rfl | rfl | rfl | rfl <;> rfl) (Nat.le_of_ble_eq_true rfl) (Nat.le_of_ble_eq_true rfl) dX1_init_16 (fun qa H hP hD hS => ?_)
  have hP : va_P D vwCl (([(g, .inr (1, [.ref qn, .null]))]) ++ ((pW qn an cI (fun _ => 10) (fun _ => 0) (fun _ => 0) (fun _ => 0) (fun _ => 0) (fun _ => 0) (fun _ => 0) 0 0 0 0 (fun _ => 0) (fun _ => 0) (fun _ => 0) (fun _ => 0)) ++ (([(qa, .inr (0, [.null, .null, .null, .null, .null, .null, .null, .int 0, .int 0, .int 0, .int 0, .null, .null, .null, .null]))])))) H := hP
  have hD : va_D A (([(g, .inr (1, [.ref qn, .null]))]) ++ ((pW qn an cI (fun _ => 10) (fun _ => 0) (fun _ => 0) (fun _ => 0) (fun _ => 0) (fun _ => 0) (fun _ => 0) 0 0 0 0 (fun _ => 0) (fun _ => 0) (fun _ => 0) (fun _ => 0)) ++ (([(qa, .inr (0, [.null, .null, .null, .null, .null, .null, .null, .int 0, .int 0, .int 0, .int 0, .null, .null, .null, .null]))])))) := hD
  refine lv_dup hx hb dX1_init_19 rfl ?_
  refine ct_Iv (As := []) (rest := [.ref qa, .ref g]) (wr := [(g, .inr (1, [.ref qn, .null])), (qn, .inr (0, [.ref (an 0), .ref (an 1), .ref (an 2), .ref (an 3), .ref (an 4), .ref (an 5), .ref (an 6), .int 0, .int 0, .int 0, .int 0, .ref (an 11), .ref (an 12), .ref (an 13), .ref (an 14)])), ((an 0), .inl (cI, 64, .inl (fun _ => 10))), ((an 1), .inl (cI, 64, .inl (fun _ => 0))), ((an 2), .inl (cI, 64, .inl (fun _ => 0))), ((an 3), .inl (cI, 64, .inl (fun _ => 0))), ((an 4), .inl (cI, 64, .inl (fun _ => 0))), ((an 5), .inl (cI, 64, .inl (fun _ => 0))), ((an 6), .inl (cI, 12, .inl (fun _ => 0))), ((an 11), .inl (cI, 64, .inl (fun _ => 0))), ((an 12), .inl (cI, 64, .inl (fun _ => 0))), ((an 13), .inl (cI, 64, .inl (fun _ => 0))), ((an 14), .inl (cI, 64, .inl (fun _ => 0)))]) (W1 := fun u => (([(g, .inr (1, [.ref qn, .null]))]) ++ ((pW qn an cI (fun _ => 10) (fun _ => 0) (fun _ => 0) (fun _ => 0) (fun _ => 0) (fun _ => 0) (fun _ => 0) 0 0 0 0 (fun _ => 0) (fun _ => 0) (fun _ => 0) (fun _ => 0)) ++ ((pW qa u cI (fun _ => 10) (fun _ => 0) (fun _ => 0) (fun _ => 0) (fun _ => 0) (fun _ => 0) (fun _ => 0) 0 0 0 0 (fun _ => 0) (fun _ => 0) (fun _ => 0) (fun _ => 0)))))) (cells1 := 24) (slots1 := 1334) ⟨hx, hb, hml, hown, hts⟩ (c_X0_init l D cI qa) (cwI 0 hts gX1_init_X0_init rfl rfl rfl (hts (Cond.initialized RX0) (List.mem_of_getElem? (i := 6) rfl)) (hts (Cond.methodLink RX1 9 yX0_init) (List.mem_of_getElem? (i := 9) rfl)) (hts (Cond.instanceMethod yX0_init) (List.mem_of_getElem? (i := 10) rfl)) rfl (by decide +kernel) ⟨Nat.le_of_ble_eq_true rfl, Nat.le_of_ble_eq_true rfl⟩) hK hP hD hS hA [13] [0, 1, 2, 3, 4, 5, 6, 7, 8, 9, 10, 11, 12] ⟨rfl, rfl, rfl, rfl, rfl⟩ [0, 1, 2, 3, 4, 5, 6, 7, 8, 9, 10, 11, 12, 13, 14, 15, 16, 17, 18, 19, 20, 21, 22, 23, 24] rfl (fun _ => rfl) [0] rfl rfl hl.1 rfl (Nat.le_of_ble_eq_true rfl) rfl rfl ⟨Nat.le_of_ble_eq_true rfl, Nat.le_of_ble_eq_true rfl⟩ dX1_init_20 (fun u H locs hw hP hD hS => ?_)
  obtain ⟨aa, hu0⟩ : ∃ y, y = u := ⟨_, rfl⟩
  subst hu0
  have hP : va_P D vwCl (([(g, .inr (1, [.ref qn, .null]))]) ++ ((pW qn an cI (fun _ => 10) (fun _ => 0) (fun _ => 0) (fun _ => 0) (fun _ => 0) (fun _ => 0) (fun _ => 0) 0 0 0 0 (fun _ => 0) (fun _ => 0) (fun _ => 0) (fun _ => 0)) ++ ((pW qa aa cI (fun _ => 10) (fun _ => 0) (fun _ => 0) (fun _ => 0) (fun _ => 0) (fun _ => 0) (fun _ => 0) 0 0 0 0 (fun _ => 0) (fun _ => 0) (fun _ => 0) (fun _ => 0))))) H := hP
  have hD : va_D A (([(g, .inr (1, [.ref qn, .null]))]) ++ ((pW qn an cI (fun _ => 10) (fun _ => 0) (fun _ => 0) (fun _ => 0) (fun _ => 0) (fun _ => 0) (fun _ => 0) 0 0 0 0 (fun _ => 0) (fun _ => 0) (fun _ => 0) (fun _ => 0)) ++ ((pW qa aa cI (fun _ => 10) (fun _ => 0) (fun _ => 0) (fun _ => 0) (fun _ => 0) (fun _ => 0) (fun _ => 0) 0 0 0 0 (fun _ => 0) (fun _ => 0) (fun _ => 0) (fun _ => 0))))) := hD
  refine va_putF (D := D) (ci := 1) (v := .ref qa) (ty := .object "FloodGrid$Plain") (C := RX1) (T := TX1) (N := 2) hx hb hts (fun _ h9 => (List.mem_cons_of_mem _ (List.mem_append_right _ h9))) tyX1 tyX1_ok nmX1 hown hK hP hD hS 0 rfl rfl 1 (by decide) (hts (Cond.fieldLink RX1 16 "FloodGrid" "ahead" "LFloodGrid$Plain;") (List.mem_of_getElem? (i := 8) rfl)) (fun _ h9 => h9) rfl hin rfl (by decide +kernel) rfl rfl (Nat.le_of_ble_eq_true rfl) dX1_init_23 (fun H locs hP hD hS => ?_)
  have hP : va_P D vwCl (([(g, .inr (1, [.ref qn, .ref qa]))]) ++ ((pW qn an cI (fun _ => 10) (fun _ => 0) (fun _ => 0) (fun _ => 0) (fun _ => 0) (fun _ => 0) (fun _ => 0) 0 0 0 0 (fun _ => 0) (fun _ => 0) (fun _ => 0) (fun _ => 0)) ++ ((pW qa aa cI (fun _ => 10) (fun _ => 0) (fun _ => 0) (fun _ => 0) (fun _ => 0) (fun _ => 0) (fun _ => 0) 0 0 0 0 (fun _ => 0) (fun _ => 0) (fun _ => 0) (fun _ => 0))))) H := hP
  have hD : va_D A (([(g, .inr (1, [.ref qn, .ref qa]))]) ++ ((pW qn an cI (fun _ => 10) (fun _ => 0) (fun _ => 0) (fun _ => 0) (fun _ => 0) (fun _ => 0) (fun _ => 0) 0 0 0 0 (fun _ => 0) (fun _ => 0) (fun _ => 0) (fun _ => 0)) ++ ((pW qa aa cI (fun _ => 10) (fun _ => 0) (fun _ => 0) (fun _ => 0) (fun _ => 0) (fun _ => 0) (fun _ => 0) 0 0 0 0 (fun _ => 0) (fun _ => 0) (fun _ => 0) (fun _ => 0))))) := hD
  exact fin (qn, qa, an, aa) H locs 24 1334 26 ls dX1_init_26 trivial hP hD hS (Nat.le_of_ble_eq_true rfl) (Nat.le_of_ble_eq_true rfl)
end
section
/-! what holds of a plain at all times: no number goes out of its bounds -/
def zs (f : Nat → Int32) : Nat → Int
  | 0 => 0
  | n + 1 => zs f n + (f n).toInt
theorem add_ex {a b : Int32} (h1 : -2147483648 ≤ a.toInt + b.toInt) (h2 : a.toInt + b.toInt < 2147483648) : (a + b).toInt = a.toInt + b.toInt := by
  rw [Int32.toInt_add]
  rw [Int.bmod_eq_of_le] <;> omega
theorem sub_ex {a b : Int32} (h1 : -2147483648 ≤ a.toInt - b.toInt) (h2 : a.toInt - b.toInt < 2147483648) : (a - b).toInt = a.toInt - b.toInt := by
  rw [Int32.toInt_sub]
  rw [Int.bmod_eq_of_le] <;> omega
theorem le_i {a b : Int32} : a ≤ b ↔ a.toInt ≤ b.toInt := Int32.le_iff_toInt_le
theorem lt_i {a b : Int32} : a < b ↔ a.toInt < b.toInt := Int32.lt_iff_toInt_lt
theorem ge0 {a : Int32} : 0 ≤ a ↔ 0 ≤ a.toInt := le_i
theorem half_i {y : Int32} (h : 0 < y) : 0 ≤ (y / 2).toInt := by
  obtain ⟨n, hn, rfl⟩ := nI_of (x := y) (fun z => Int32.lt_irrefl (Int32.lt_trans h z))
  have e : nI n / 2 = nI (n / 2) := pk_div (d := 2) hn (by decide) (by decide)
  rw [e, nI_toInt (by omega)]
  omega
theorem zs_upd (f : Nat → Int32) (k : Nat) (x : Int32) : ∀ n, zs (upd f k x) n = zs f n + (if k < n then x.toInt - (f k).toInt else 0)
  | 0 => by simp [zs]
  | n + 1 => by
    have ih := zs_upd f k x n
    simp only [zs, ih]
    by_cases e : n = k
    · subst e
      have h1 : upd f n x n = x := pk_us
      have h2 : ¬ n < n := Nat.lt_irrefl n
      have h3 : n < n + 1 := Nat.lt_succ_self n
      rw [h1, if_neg h2, if_pos h3]
      omega
    · have h1 : upd f k x n = f n := pk_un e
      rw [h1]
      by_cases hl : k < n
      · have h3 : k < n + 1 := by omega
        rw [if_pos hl, if_pos h3]; omega
      · have h3 : ¬ k < n + 1 := by omega
        rw [if_neg hl, if_neg h3]; omega
theorem zs_add {f g h : Nat → Int32} : ∀ n, (∀ c, c < n → (f c).toInt = (g c).toInt + (h c).toInt) → zs f n = zs g n + zs h n
  | 0, _ => rfl
  | n + 1, hc => by
    have ih := zs_add (f := f) (g := g) (h := h) n (fun c hl => hc c (by omega))
    have h1 := hc n (by omega)
    simp only [zs]
    omega
theorem zs_le {f g : Nat → Int32} : ∀ n, (∀ c, c < n → (f c).toInt ≤ (g c).toInt) → zs f n ≤ zs g n
  | 0, _ => Int.le_refl _
  | n + 1, hc => by
    have ih := zs_le (f := f) (g := g) n (fun c hl => hc c (by omega))
    have h1 := hc n (by omega)
    simp only [zs]
    omega
theorem zs_up {f g : Nat → Int32} {d : Int} : ∀ n : Nat, (∀ c, c < n → (f c).toInt ≤ (g c).toInt + d) → zs f n ≤ zs g n + (n : Int) * d
  | 0, _ => by simp [zs]
  | n + 1, hc => by
    have ih := zs_up (f := f) (g := g) (d := d) n (fun c hl => hc c (by omega))
    have h1 := hc n (by omega)
    have e : ((n + 1 : Nat) : Int) * d = (n : Int) * d + d := by rw [Int.natCast_succ, Int.add_mul, Int.one_mul]
    simp only [zs]
    omega
theorem zs_nn {f : Nat → Int32} : ∀ n, (∀ c, c < n → 0 ≤ (f c).toInt) → 0 ≤ zs f n
  | 0, _ => Int.le_refl _
  | n + 1, hc => by
    have ih := zs_nn (f := f) n (fun c hl => hc c (by omega))
    have h1 := hc n (by omega)
    simp only [zs]
    omega
theorem zs_mono {f : Nat → Int32} : ∀ {m n : Nat}, m ≤ n → (∀ c, c < n → 0 ≤ (f c).toInt) → zs f m ≤ zs f n
  | m, 0, h, _ => by
    have : m = 0 := by omega
    subst this
    exact Int.le_refl _
  | m, n + 1, h, hc => by
    by_cases e : m = n + 1
    · subst e; exact Int.le_refl _
    · have ih := zs_mono (f := f) (m := m) (n := n) (by omega) (fun c hl => hc c (by omega))
      have h1 := hc n (by omega)
      simp only [zs]
      omega
theorem zs_one {f : Nat → Int32} : ∀ n, (∀ c, c < n → 0 ≤ (f c).toInt) → ∀ c, c < n → (f c).toInt ≤ zs f n
  | 0, _, c, h => absurd h (Nat.not_lt_zero c)
  | n + 1, hc, c, h => by
    have h0 := zs_nn (f := f) n (fun c hl => hc c (by omega))
    have h1 := hc n (by omega)
    simp only [zs]
    by_cases e : c = n
    · subst e; omega
    · have ih := zs_one (f := f) n (fun c hl => hc c (by omega)) c (by omega)
      omega
theorem i_min_i (x y : Int32) : (i_min x y).toInt = min x.toInt y.toInt := by
  unfold i_min
  by_cases h : y < x
  · rw [if_pos h]
    have := lt_i.mp h
    omega
  · rw [if_neg h]
    have := le_i.mp (Int32.not_lt.mp h)
    omega
theorem i_max_i (x y : Int32) : (i_max x y).toInt = max x.toInt y.toInt := by
  unfold i_max
  by_cases h : x < y
  · rw [if_pos h]
    have := lt_i.mp h
    omega
  · rw [if_neg h]
    have := le_i.mp (Int32.not_lt.mp h)
    omega
/-- water runs: each gives no more than it has, and none is lost -/
def gOk (w1 : Nat → Int32) (i : Nat) (G : Nat → Int32) : Prop := (∀ c, c < 64 → (if c < i then -(w1 c).toInt else 0) ≤ (G c).toInt ∧ (G c).toInt ≤ zs w1 i) ∧ zs G 64 = 0
theorem zs_z : ∀ n, zs (fun _ => 0) n = 0
  | 0 => rfl
  | n + 1 => by
    have ih := zs_z n
    simp only [zs, ih]
    rfl
theorem gOk_0 (w1 : Nat → Int32) : gOk w1 0 (fun _ => 0) := ⟨fun c _ => ⟨by rw [if_neg (Nat.not_lt_zero c)]; exact Int.le_refl _, Int.le_refl _⟩, zs_z 64⟩
section GO
variable {hei dam w1 : Nat → Int32} {B : Int} (hB : B < 500000000) (hh : ∀ c, c < 64 → 0 ≤ (hei c).toInt ∧ (hei c).toInt ≤ 50) (hd : ∀ c, c < 64 → 0 ≤ (dam c).toInt ∧ (dam c).toInt ≤ 20) (hw : ∀ c, c < 64 → 0 ≤ (w1 c).toInt) (hs : zs w1 64 ≤ B)
theorem given_ok {i j : Nat} (hB : B < 500000000) (hh : ∀ c, c < 64 → 0 ≤ (hei c).toInt ∧ (hei c).toInt ≤ 50) (hd : ∀ c, c < 64 → 0 ≤ (dam c).toInt ∧ (dam c).toInt ≤ 20) (hw : ∀ c, c < 64 → 0 ≤ (w1 c).toInt) (hs : zs w1 64 ≤ B) (hi : i < 64) (hj : j < 64) (hlt : dam i < w1 i) {cre : Nat → Int32} (hpos : 0 < hei i + w1 i - cre j) : 0 ≤ (q_given hei w1 dam cre i j).toInt ∧ (q_given hei w1 dam cre i j).toInt ≤ (w1 i).toInt := by
  have h1 := zs_one 64 hw i hi
  have h2 := hw i hi
  have h3 := hd i hi
  have h4 := half_i hpos
  have h5 := lt_i.mp hlt
  have e1 : (w1 i - dam i).toInt = (w1 i).toInt - (dam i).toInt := sub_ex (by omega) (by omega)
  unfold q_given
  rw [i_min_i, e1]
  omega
theorem gOk_next {i : Nat} (hB : B < 500000000) (hh : ∀ c, c < 64 → 0 ≤ (hei c).toInt ∧ (hei c).toInt ≤ 50) (hd : ∀ c, c < 64 → 0 ≤ (dam c).toInt ∧ (dam c).toInt ≤ 20) (hw : ∀ c, c < 64 → 0 ≤ (w1 c).toInt) (hs : zs w1 64 ≤ B) (hi : i < 64) {G cre : Nat → Int32} (h : gOk w1 i G) : gOk w1 (i + 1) (if dam i < w1 i then q_give hei w1 dam cre i (q_low cre i 4) G else G) := by
  have hwi := hw i hi
  have hm := zs_mono (f := w1) (m := i + 1) (n := 64) (by omega) hw
  have h0 := zs_nn (f := w1) i (fun c hc => hw c (by omega))
  have ez : zs w1 (i + 1) = zs w1 i + (w1 i).toInt := rfl
  have keep : gOk w1 (i + 1) G := by
    refine ⟨fun c hc => ?_, h.2⟩
    obtain ⟨a1, a2⟩ := h.1 c hc
    have hwc := hw c hc
    refine ⟨?_, by omega⟩
    by_cases e : c < i + 1
    · rw [if_pos e]
      by_cases e2 : c < i
      · rw [if_pos e2] at a1; exact a1
      · rw [if_neg e2] at a1; omega
    · have e2 : ¬ c < i := by omega
      rw [if_neg e]
      rw [if_neg e2] at a1
      exact a1
  by_cases hlt : dam i < w1 i
  · rw [if_pos hlt]
    cases ho : q_low cre i 4 with
    | none => exact keep
    | some j =>
      have hj : j < 64 := q_low_lt hi ho
      show gOk w1 (i + 1) (if 0 < hei i + w1 i - cre j then q_move G i j (q_given hei w1 dam cre i j) else G)
      by_cases hp : 0 < hei i + w1 i - cre j
      · rw [if_pos hp]
        obtain ⟨x0, x1⟩ := given_ok hB hh hd hw hs hi hj hlt hp
        generalize q_given hei w1 dam cre i j = x at x0 x1
        obtain ⟨g0, g1⟩ := h.1 i hi
        rw [if_neg (Nat.lt_irrefl i)] at g0
        have e1 : (G i - x).toInt = (G i).toInt - x.toInt := sub_ex (by omega) (by omega)
        obtain ⟨j0, j1⟩ := h.1 j hj
        have hwj := hw j hj
        have hwj2 := zs_one 64 hw j hj
        -- what j has behind the first store
        have ej : (upd G i (G i - x) j).toInt = (if j = i then (G i).toInt - x.toInt else (G j).toInt) := by
          by_cases e : j = i
          · rw [if_pos e, e, pk_us, e1]
          · rw [if_neg e, pk_un e]
        have lo : -(w1 j).toInt ≤ (G j).toInt := by
          by_cases e : j < i
          · rw [if_pos e] at j0; exact j0
          · rw [if_neg e] at j0; omega
        have e2 : (upd G i (G i - x) j + x).toInt = (upd G i (G i - x) j).toInt + x.toInt := by
          apply add_ex
          · rw [ej]; split <;> omega
          · rw [ej]; split <;> omega
        refine ⟨fun c hc => ?_, ?_⟩
        · obtain ⟨a1, a2⟩ := keep.1 c hc
          have ec : (q_move G i j x c).toInt = (if c = j then (upd G i (G i - x) j).toInt + x.toInt else (if c = i then (G i).toInt - x.toInt else (G c).toInt)) := by
            unfold q_move
            by_cases e : c = j
            · rw [if_pos e, e, pk_us, e2]
            · rw [if_neg e, pk_un e]
              by_cases e' : c = i
              · rw [if_pos e', e', pk_us, e1]
              · rw [if_neg e', pk_un e']
          rw [ec]
          by_cases e : c = j
          · rw [if_pos e, ej]
            subst e
            by_cases e' : c = i
            · rw [if_pos e']
              subst e'
              exact ⟨by have := a1; omega, by omega⟩
            · rw [if_neg e']
              exact ⟨by omega, by omega⟩
          · rw [if_neg e]
            by_cases e' : c = i
            · rw [if_pos e']
              subst e'
              have e3 : c < c + 1 := Nat.lt_succ_self c
              rw [if_pos e3]
              exact ⟨by omega, by omega⟩
            · rw [if_neg e']
              exact ⟨a1, a2⟩
        · unfold q_move
          rw [zs_upd, zs_upd, if_pos hj, if_pos hi, h.2, e2, e1]
          omega
      · rw [if_neg hp]; exact keep
  · rw [if_neg hlt]; exact keep
end GO
theorem gOk_all {hei dam w1 : Nat → Int32} {B : Int} (hB : B < 500000000) (hh : ∀ c, c < 64 → 0 ≤ (hei c).toInt ∧ (hei c).toInt ≤ 50) (hd : ∀ c, c < 64 → 0 ≤ (dam c).toInt ∧ (dam c).toInt ≤ 20) (hw : ∀ c, c < 64 → 0 ≤ (w1 c).toInt) (hs : zs w1 64 ≤ B) (cre : Nat → Int32) : ∀ i, i ≤ 64 → gOk w1 i (q_gain hei w1 dam cre i)
  | 0, _ => gOk_0 w1
  | i + 1, h => gOk_next hB hh hd hw hs (by omega) (gOk_all hB hh hd hw hs cre i (by omega))
/-- the bounds: of heights, drains, rain, dams, wear; no water below none, and all water together -/
def inv (B : Int) (hei dra rai : Nat → Int32) (σ : Ms) : Prop :=
  (∀ c, c < 64 → 0 ≤ (hei c).toInt ∧ (hei c).toInt ≤ 50) ∧ (∀ c, c < 64 → 0 ≤ (dra c).toInt ∧ (dra c).toInt ≤ 9) ∧ (∀ c, c < 12 → 0 ≤ (rai c).toInt ∧ (rai c).toInt ≤ 9) ∧
  (∀ c, c < 64 → 0 ≤ (m_dam σ c).toInt ∧ (m_dam σ c).toInt ≤ 20) ∧ (∀ c, c < 64 → 0 ≤ (m_wea σ c).toInt ∧ (m_wea σ c).toInt ≤ 9) ∧ (∀ c, c < 64 → 0 ≤ (m_wat σ c).toInt) ∧ zs (m_wat σ) 64 ≤ B
theorem inv_hour {B : Int} {hei dra rai : Nat → Int32} {σ : Ms} (hB : B < 400000000) (h : inv B hei dra rai σ) : inv (B + 576) hei dra rai (q_hour hei dra rai σ) := by
  obtain ⟨h1, h2, h3, h4, h5, h6, h7⟩ := h
  have hr := h3 (m_t σ % 12) (Nat.mod_lt _ (by decide))
  have w1e : ∀ c, c < 64 → (q_w1 rai (m_t σ) (m_wat σ) c).toInt = (m_wat σ c).toInt + (rai (m_t σ % 12)).toInt := by
    intro c hc
    have a := zs_one 64 h6 c hc
    have b := h6 c hc
    exact add_ex (by omega) (by omega)
  have hw1 : ∀ c, c < 64 → 0 ≤ (q_w1 rai (m_t σ) (m_wat σ) c).toInt := by
    intro c hc
    rw [w1e c hc]
    have b := h6 c hc
    omega
  have hs1 : zs (q_w1 rai (m_t σ) (m_wat σ)) 64 ≤ B + 576 := by
    have := zs_up (f := q_w1 rai (m_t σ) (m_wat σ)) (g := m_wat σ) (d := 9) 64 (fun c hc => by rw [w1e c hc]; omega)
    omega
  have hg := gOk_all (B := B + 576) (by omega) h1 h4 hw1 hs1 (q_cre hei (m_dam σ) (q_w1 rai (m_t σ) (m_wat σ))) 64 (Nat.le_refl _)
  generalize hW1 : q_w1 rai (m_t σ) (m_wat σ) = W1 at *
  generalize hGA : q_gain hei W1 (m_dam σ) (q_cre hei (m_dam σ) W1) 64 = GA at *
  have w2e : ∀ c, c < 64 → (q_w2 hei (m_dam σ) W1 c).toInt = (W1 c).toInt + (GA c).toInt := by
    intro c hc
    obtain ⟨a1, a2⟩ := hg.1 c hc
    rw [if_pos hc] at a1
    have a3 := zs_one 64 hw1 c hc
    have a4 := hw1 c hc
    unfold q_w2
    rw [hGA]
    exact add_ex (by omega) (by omega)
  have hw2 : ∀ c, c < 64 → 0 ≤ (q_w2 hei (m_dam σ) W1 c).toInt := by
    intro c hc
    obtain ⟨a1, -⟩ := hg.1 c hc
    rw [if_pos hc] at a1
    rw [w2e c hc]
    omega
  have hs2 : zs (q_w2 hei (m_dam σ) W1) 64 ≤ B + 576 := by
    rw [zs_add 64 w2e, hg.2]
    omega
  generalize hW2 : q_w2 hei (m_dam σ) W1 = W2 at *
  have w3e : ∀ c, c < 64 → 0 ≤ (q_w3 dra W2 c).toInt ∧ (q_w3 dra W2 c).toInt ≤ (W2 c).toInt := by
    intro c hc
    have a1 := hw2 c hc
    have a2 := h2 c hc
    have a3 := zs_one 64 hw2 c hc
    have e1 : (q_tak dra W2 c).toInt = min (dra c).toInt (W2 c).toInt := i_min_i _ _
    have e2 : (q_w3 dra W2 c).toInt = (W2 c).toInt - (q_tak dra W2 c).toInt := sub_ex (by omega) (by omega)
    rw [e2, e1]
    omega
  have eqh : q_hour hei dra rai σ = (q_w3 dra W2, q_dam (m_dam σ) W2 (m_wea σ), q_wea (m_dam σ) W2 (m_wea σ), q_peo (q_w3 dra W2) (m_peo σ), m_t σ + 1, m_bro σ + q_sum (q_brk (m_dam σ) W2 (m_wea σ)) 64, m_drd σ + q_sum (q_tak dra W2) 64, m_lef σ + q_sum (q_lv (q_w3 dra W2) (m_peo σ)) 64) := by
    unfold q_hour
    rw [hW1, hW2]
  rw [eqh]
  refine ⟨h1, h2, h3, fun c hc => ?_, fun c hc => ?_, fun c hc => (w3e c hc).1, ?_⟩
  · show 0 ≤ (q_dam (m_dam σ) W2 (m_wea σ) c).toInt ∧ (q_dam (m_dam σ) W2 (m_wea σ) c).toInt ≤ 20
    unfold q_dam
    split
    · exact ⟨by decide, by decide⟩
    · exact h4 c hc
  · show 0 ≤ (q_wea (m_dam σ) W2 (m_wea σ) c).toInt ∧ (q_wea (m_dam σ) W2 (m_wea σ) c).toInt ≤ 9
    have a5 := h5 c hc
    have e1 : (m_wea σ c + 1).toInt = (m_wea σ c).toInt + 1 := add_ex (b := 1) (by have : (1 : Int32).toInt = 1 := rfl; omega) (by have : (1 : Int32).toInt = 1 := rfl; omega)
    unfold q_wea
    split
    · split
      · exact ⟨by decide, by decide⟩
      · rename_i h9
        have h8 := lt_i.mp (Int32.not_le.mp h9)
        have : (10 : Int32).toInt = 10 := rfl
        rw [e1] at h8 ⊢
        omega
    · exact a5
  · show zs (q_w3 dra W2) 64 ≤ B + 576
    exact Int.le_trans (zs_le 64 (fun c hc => (w3e c hc).2)) hs2
theorem inv_hours {B : Int} {hei dra rai : Nat → Int32} {σ : Ms} (h : inv B hei dra rai σ) : ∀ n : Nat, B + 576 * (n : Int) < 400000000 → inv (B + 576 * (n : Int)) hei dra rai (q_hours hei dra rai n σ)
  | 0, _ => by
    have e : B + 576 * ((0 : Nat) : Int) = B := by omega
    rw [e]
    exact h
  | n + 1, hB => by
    have ih := inv_hours h n (by omega)
    have h2 := inv_hour (by omega) ih
    have e : B + 576 * (n : Int) + 576 = B + 576 * ((n + 1 : Nat) : Int) := by omega
    rw [e] at h2
    exact h2
theorem inv_up {B C : Int} {hei dra rai : Nat → Int32} {σ : Ms} (h : inv B hei dra rai σ) (hBC : B ≤ C) : inv C hei dra rai σ := ⟨h.1, h.2.1, h.2.2.1, h.2.2.2.1, h.2.2.2.2.1, h.2.2.2.2.2.1, Int.le_trans h.2.2.2.2.2.2 hBC⟩
theorem inv_w {B : Int} {hei dra rai : Nat → Int32} {σ : Ms} (h : inv B hei dra rai σ) : ∀ c, c < 64 → 0 ≤ m_wat σ c := fun c hc => ge0.mpr (h.2.2.2.2.2.1 c hc)
theorem inv_dm {B : Int} {hei dra rai : Nat → Int32} {σ : Ms} (h : inv B hei dra rai σ) : ∀ c, c < 64 → m_dam σ c ≤ 20 := fun c hc => le_i.mpr (h.2.2.2.1 c hc).2
theorem bnd_upd {f : Nat → Int32} {n k : Nat} {v : Int32} {a b : Int} (h : ∀ c, c < n → a ≤ (f c).toInt ∧ (f c).toInt ≤ b) (hv : a ≤ v.toInt ∧ v.toInt ≤ b) : ∀ c, c < n → a ≤ (upd f k v c).toInt ∧ (upd f k v c).toInt ≤ b := by
  intro c hc
  unfold upd
  split
  · exact hv
  · exact h c hc
theorem inv_hei {B : Int} {hei dra rai : Nat → Int32} {σ : Ms} (h : inv B hei dra rai σ) (k : Nat) {v : Int32} (hv : 0 ≤ v ∧ v ≤ 50) : inv B (upd hei k v) dra rai σ := ⟨bnd_upd h.1 ⟨le_i.mp hv.1, le_i.mp hv.2⟩, h.2⟩
theorem inv_dra {B : Int} {hei dra rai : Nat → Int32} {σ : Ms} (h : inv B hei dra rai σ) (k : Nat) {v : Int32} (hv : 0 ≤ v ∧ v ≤ 9) : inv B hei (upd dra k v) rai σ := ⟨h.1, bnd_upd h.2.1 ⟨le_i.mp hv.1, le_i.mp hv.2⟩, h.2.2⟩
theorem inv_rai {B : Int} {hei dra rai : Nat → Int32} {σ : Ms} (h : inv B hei dra rai σ) (k : Nat) {v : Int32} (hv : 0 ≤ v ∧ v ≤ 9) : inv B hei dra (upd rai k v) σ := ⟨h.1, h.2.1, bnd_upd h.2.2.1 ⟨le_i.mp hv.1, le_i.mp hv.2⟩, h.2.2.2⟩
theorem inv_with {B : Int} {hei dra rai : Nat → Int32} {σ : Ms} (h : inv B hei dra rai σ) (k : Nat) {v : Int32} (hv : 0 ≤ v ∧ v ≤ 20) : inv B hei dra rai (q_with σ k v) := ⟨h.1, h.2.1, h.2.2.1, bnd_upd h.2.2.2.1 ⟨le_i.mp hv.1, le_i.mp hv.2⟩, bnd_upd h.2.2.2.2.1 ⟨by decide, by decide⟩, h.2.2.2.2.2.1, h.2.2.2.2.2.2⟩
theorem inv_peo {B : Int} {hei dra rai : Nat → Int32} {σ : Ms} (h : inv B hei dra rai σ) (p : Nat → Int32) : inv B hei dra rai (m_wat σ, m_dam σ, m_wea σ, p, m_t σ, m_bro σ, m_drd σ, m_lef σ) := h
theorem inv_pour {B : Int} {hei dra rai : Nat → Int32} {σ : Ms} (hB : B < 400000000) (h : inv B hei dra rai σ) {k : Nat} (hk : k < 64) {v : Int32} (hv : (-99) ≤ v ∧ v ≤ 99) : inv (B + 99) hei dra rai (upd (m_wat σ) k (i_max 0 (m_wat σ k + v)), m_dam σ, m_wea σ, m_peo σ, m_t σ, m_bro σ, m_drd σ, m_lef σ) := by
  have h6 := h.2.2.2.2.2.1
  have h7 := h.2.2.2.2.2.2
  have a1 := h6 k hk
  have a2 := zs_one 64 h6 k hk
  have v1 : -99 ≤ v.toInt := le_i.mp hv.1
  have v2 : v.toInt ≤ 99 := le_i.mp hv.2
  have e1 : (m_wat σ k + v).toInt = (m_wat σ k).toInt + v.toInt := add_ex (by omega) (by omega)
  have e2 : (i_max 0 (m_wat σ k + v)).toInt = max 0 ((m_wat σ k).toInt + v.toInt) := by
    rw [i_max_i, e1]
    rfl
  refine ⟨h.1, h.2.1, h.2.2.1, h.2.2.2.1, h.2.2.2.2.1, fun c hc => ?_, ?_⟩
  · show 0 ≤ (upd (m_wat σ) k (i_max 0 (m_wat σ k + v)) c).toInt
    unfold upd
    split
    · rw [e2]; omega
    · exact h6 c hc
  · show zs (upd (m_wat σ) k (i_max 0 (m_wat σ k + v))) 64 ≤ B + 99
    rw [zs_upd, if_pos hk, e2]
    omega
theorem inv_0 : inv 0 (fun _ => 10) (fun _ => 0) (fun _ => 0) q_m0 := by
  have z : (0 : Int32).toInt = 0 := rfl
  have t : (10 : Int32).toInt = 10 := rfl
  refine ⟨fun c _ => ?_, fun c _ => ?_, fun c _ => ?_, fun c _ => ?_, fun c _ => ?_, fun c _ => ?_, ?_⟩
  · show 0 ≤ (10 : Int32).toInt ∧ (10 : Int32).toInt ≤ 50
    omega
  · show 0 ≤ (0 : Int32).toInt ∧ (0 : Int32).toInt ≤ 9
    omega
  · show 0 ≤ (0 : Int32).toInt ∧ (0 : Int32).toInt ≤ 9
    omega
  · show 0 ≤ (0 : Int32).toInt ∧ (0 : Int32).toInt ≤ 20
    omega
  · show 0 ≤ (0 : Int32).toInt ∧ (0 : Int32).toInt ≤ 9
    omega
  · show 0 ≤ (0 : Int32).toInt
    omega
  · show zs (fun _ => 0) 64 ≤ 0
    rw [zs_z]
    exact Int.le_refl _
end
section
theorem dX2_init_0 : decode cX2_init 0 = .ok (.aload_n 0, 1) := by decide +kernel
theorem dX2_init_1 : decode cX2_init 1 = .ok (.invokespecial 1, 3) := by decide +kernel
theorem dX2_init_4 : decode cX2_init 4 = .ok (.aload_n 0, 1) := by decide +kernel
theorem dX2_init_5 : decode cX2_init 5 = .ok (.bipush 8, 2) := by decide +kernel
theorem dX2_init_7 : decode cX2_init 7 = .ok (.bipush 8, 2) := by decide +kernel
theorem dX2_init_9 : decode cX2_init 9 = .ok (.multianewarray 7 2, 4) := by decide +kernel
theorem dX2_init_13 : decode cX2_init 13 = .ok (.putfield 9, 3) := by decide +kernel
theorem dX2_init_16 : decode cX2_init 16 = .ok (.aload_n 0, 1) := by decide +kernel
theorem dX2_init_17 : decode cX2_init 17 = .ok (.bipush 8, 2) := by decide +kernel
theorem dX2_init_19 : decode cX2_init 19 = .ok (.bipush 8, 2) := by decide +kernel
theorem dX2_init_21 : decode cX2_init 21 = .ok (.multianewarray 7 2, 4) := by decide +kernel
theorem dX2_init_25 : decode cX2_init 25 = .ok (.putfield 14, 3) := by decide +kernel
theorem dX2_init_28 : decode cX2_init 28 = .ok (.aload_n 0, 1) := by decide +kernel
theorem dX2_init_29 : decode cX2_init 29 = .ok (.bipush 8, 2) := by decide +kernel
theorem dX2_init_31 : decode cX2_init 31 = .ok (.bipush 8, 2) := by decide +kernel
theorem dX2_init_33 : decode cX2_init 33 = .ok (.multianewarray 7 2, 4) := by decide +kernel
theorem dX2_init_37 : decode cX2_init 37 = .ok (.putfield 17, 3) := by decide +kernel
theorem dX2_init_40 : decode cX2_init 40 = .ok (.aload_n 0, 1) := by decide +kernel
theorem dX2_init_41 : decode cX2_init 41 = .ok (.bipush 8, 2) := by decide +kernel
theorem dX2_init_43 : decode cX2_init 43 = .ok (.bipush 8, 2) := by decide +kernel
theorem dX2_init_45 : decode cX2_init 45 = .ok (.multianewarray 7 2, 4) := by decide +kernel
theorem dX2_init_49 : decode cX2_init 49 = .ok (.putfield 20, 3) := by decide +kernel
theorem dX2_init_52 : decode cX2_init 52 = .ok (.aload_n 0, 1) := by decide +kernel
theorem dX2_init_53 : decode cX2_init 53 = .ok (.bipush 8, 2) := by decide +kernel
theorem dX2_init_55 : decode cX2_init 55 = .ok (.bipush 8, 2) := by decide +kernel
theorem dX2_init_57 : decode cX2_init 57 = .ok (.multianewarray 7 2, 4) := by decide +kernel
theorem dX2_init_61 : decode cX2_init 61 = .ok (.putfield 23, 3) := by decide +kernel
theorem dX2_init_64 : decode cX2_init 64 = .ok (.aload_n 0, 1) := by decide +kernel
theorem dX2_init_65 : decode cX2_init 65 = .ok (.bipush 8, 2) := by decide +kernel
theorem dX2_init_67 : decode cX2_init 67 = .ok (.bipush 8, 2) := by decide +kernel
theorem dX2_init_69 : decode cX2_init 69 = .ok (.multianewarray 7 2, 4) := by decide +kernel
theorem dX2_init_73 : decode cX2_init 73 = .ok (.putfield 26, 3) := by decide +kernel
theorem dX2_init_76 : decode cX2_init 76 = .ok (.aload_n 0, 1) := by decide +kernel
theorem dX2_init_77 : decode cX2_init 77 = .ok (.bipush 12, 2) := by decide +kernel
theorem dX2_init_79 : decode cX2_init 79 = .ok (.newarray .int, 2) := by decide +kernel
theorem dX2_init_81 : decode cX2_init 81 = .ok (.putfield 29, 3) := by decide +kernel
theorem dX2_init_84 : decode cX2_init 84 = .ok (.aload_n 0, 1) := by decide +kernel
theorem dX2_init_85 : decode cX2_init 85 = .ok (.getfield 9, 3) := by decide +kernel
theorem dX2_init_88 : decode cX2_init 88 = .ok (.astore_n 1, 1) := by decide +kernel
theorem dX2_init_89 : decode cX2_init 89 = .ok (.aload_n 1, 1) := by decide +kernel
theorem dX2_init_90 : decode cX2_init 90 = .ok (.arraylength, 1) := by decide +kernel
theorem dX2_init_91 : decode cX2_init 91 = .ok (.istore_n 2, 1) := by decide +kernel
theorem dX2_init_92 : decode cX2_init 92 = .ok (.iconst 0, 1) := by decide +kernel
theorem dX2_init_93 : decode cX2_init 93 = .ok (.istore_n 3, 1) := by decide +kernel
theorem dX2_init_94 : decode cX2_init 94 = .ok (.iload_n 3, 1) := by decide +kernel
theorem dX2_init_95 : decode cX2_init 95 = .ok (.iload_n 2, 1) := by decide +kernel
theorem dX2_init_96 : decode cX2_init 96 = .ok (.if_icmp .ge 37, 3) := by decide +kernel
theorem dX2_init_99 : decode cX2_init 99 = .ok (.aload_n 1, 1) := by decide +kernel
theorem dX2_init_100 : decode cX2_init 100 = .ok (.iload_n 3, 1) := by decide +kernel
theorem dX2_init_101 : decode cX2_init 101 = .ok (.aaload, 1) := by decide +kernel
theorem dX2_init_102 : decode cX2_init 102 = .ok (.astore 4, 2) := by decide +kernel
theorem dX2_init_104 : decode cX2_init 104 = .ok (.iconst 0, 1) := by decide +kernel
theorem dX2_init_105 : decode cX2_init 105 = .ok (.istore 5, 2) := by decide +kernel
theorem dX2_init_107 : decode cX2_init 107 = .ok (.iload 5, 2) := by decide +kernel
theorem dX2_init_109 : decode cX2_init 109 = .ok (.bipush 8, 2) := by decide +kernel
theorem dX2_init_111 : decode cX2_init 111 = .ok (.if_icmp .ge 16, 3) := by decide +kernel
theorem dX2_init_114 : decode cX2_init 114 = .ok (.aload 4, 2) := by decide +kernel
theorem dX2_init_116 : decode cX2_init 116 = .ok (.iload 5, 2) := by decide +kernel
theorem dX2_init_118 : decode cX2_init 118 = .ok (.bipush 10, 2) := by decide +kernel
theorem dX2_init_120 : decode cX2_init 120 = .ok (.iastore, 1) := by decide +kernel
theorem dX2_init_121 : decode cX2_init 121 = .ok (.iinc 5 1, 3) := by decide +kernel
theorem dX2_init_124 : decode cX2_init 124 = .ok (.goto (-17), 3) := by decide +kernel
theorem dX2_init_127 : decode cX2_init 127 = .ok (.iinc 3 1, 3) := by decide +kernel
theorem dX2_init_130 : decode cX2_init 130 = .ok (.goto (-36), 3) := by decide +kernel
theorem dX2_init_133 : decode cX2_init 133 = .ok (.return_, 1) := by decide +kernel
theorem dX2_crest_0 : decode cX2_crest 0 = .ok (.aload_n 0, 1) := by decide +kernel
theorem dX2_crest_1 : decode cX2_crest 1 = .ok (.getfield 14, 3) := by decide +kernel
theorem dX2_crest_4 : decode cX2_crest 4 = .ok (.iload_n 1, 1) := by decide +kernel
theorem dX2_crest_5 : decode cX2_crest 5 = .ok (.aaload, 1) := by decide +kernel
theorem dX2_crest_6 : decode cX2_crest 6 = .ok (.iload_n 2, 1) := by decide +kernel
theorem dX2_crest_7 : decode cX2_crest 7 = .ok (.iaload, 1) := by decide +kernel
theorem dX2_crest_8 : decode cX2_crest 8 = .ok (.aload_n 0, 1) := by decide +kernel
theorem dX2_crest_9 : decode cX2_crest 9 = .ok (.getfield 17, 3) := by decide +kernel
theorem dX2_crest_12 : decode cX2_crest 12 = .ok (.iload_n 1, 1) := by decide +kernel
theorem dX2_crest_13 : decode cX2_crest 13 = .ok (.aaload, 1) := by decide +kernel
theorem dX2_crest_14 : decode cX2_crest 14 = .ok (.iload_n 2, 1) := by decide +kernel
theorem dX2_crest_15 : decode cX2_crest 15 = .ok (.iaload, 1) := by decide +kernel
theorem dX2_crest_16 : decode cX2_crest 16 = .ok (.if_icmp .le 23, 3) := by decide +kernel
theorem dX2_crest_19 : decode cX2_crest 19 = .ok (.aload_n 0, 1) := by decide +kernel
theorem dX2_crest_20 : decode cX2_crest 20 = .ok (.getfield 9, 3) := by decide +kernel
theorem dX2_crest_23 : decode cX2_crest 23 = .ok (.iload_n 1, 1) := by decide +kernel
theorem dX2_crest_24 : decode cX2_crest 24 = .ok (.aaload, 1) := by decide +kernel
theorem dX2_crest_25 : decode cX2_crest 25 = .ok (.iload_n 2, 1) := by decide +kernel
theorem dX2_crest_26 : decode cX2_crest 26 = .ok (.iaload, 1) := by decide +kernel
theorem dX2_crest_27 : decode cX2_crest 27 = .ok (.aload_n 0, 1) := by decide +kernel
theorem dX2_crest_28 : decode cX2_crest 28 = .ok (.getfield 14, 3) := by decide +kernel
theorem dX2_crest_31 : decode cX2_crest 31 = .ok (.iload_n 1, 1) := by decide +kernel
theorem dX2_crest_32 : decode cX2_crest 32 = .ok (.aaload, 1) := by decide +kernel
theorem dX2_crest_33 : decode cX2_crest 33 = .ok (.iload_n 2, 1) := by decide +kernel
theorem dX2_crest_34 : decode cX2_crest 34 = .ok (.iaload, 1) := by decide +kernel
theorem dX2_crest_35 : decode cX2_crest 35 = .ok (.iadd, 1) := by decide +kernel
theorem dX2_crest_36 : decode cX2_crest 36 = .ok (.goto 20, 3) := by decide +kernel
theorem dX2_crest_39 : decode cX2_crest 39 = .ok (.aload_n 0, 1) := by decide +kernel
theorem dX2_crest_40 : decode cX2_crest 40 = .ok (.getfield 9, 3) := by decide +kernel
theorem dX2_crest_43 : decode cX2_crest 43 = .ok (.iload_n 1, 1) := by decide +kernel
theorem dX2_crest_44 : decode cX2_crest 44 = .ok (.aaload, 1) := by decide +kernel
theorem dX2_crest_45 : decode cX2_crest 45 = .ok (.iload_n 2, 1) := by decide +kernel
theorem dX2_crest_46 : decode cX2_crest 46 = .ok (.iaload, 1) := by decide +kernel
theorem dX2_crest_47 : decode cX2_crest 47 = .ok (.aload_n 0, 1) := by decide +kernel
theorem dX2_crest_48 : decode cX2_crest 48 = .ok (.getfield 17, 3) := by decide +kernel
theorem dX2_crest_51 : decode cX2_crest 51 = .ok (.iload_n 1, 1) := by decide +kernel
theorem dX2_crest_52 : decode cX2_crest 52 = .ok (.aaload, 1) := by decide +kernel
theorem dX2_crest_53 : decode cX2_crest 53 = .ok (.iload_n 2, 1) := by decide +kernel
theorem dX2_crest_54 : decode cX2_crest 54 = .ok (.iaload, 1) := by decide +kernel
theorem dX2_crest_55 : decode cX2_crest 55 = .ok (.iadd, 1) := by decide +kernel
theorem dX2_crest_56 : decode cX2_crest 56 = .ok (.ireturn, 1) := by decide +kernel
set_option maxRecDepth 20000 in
theorem ggX2_pass_X2_crest : GoodIn wsX2_pass wsX2_crest := goodIn_r _ [19, 4, 7, 9, 20, 21, 22, 23, 24, 25, 26, 27, 28, 29, 30] (by decide +kernel) (by decide +kernel)
set_option maxRecDepth 20000 in
theorem gX2_pass_X2_crest : GoodIn wsX2_pass (wsV RX2 51 RX2 yX2_crest wsX2_crest) := goodIn_app (goodIn_of _ (by decide +kernel)) ggX2_pass_X2_crest
theorem dX2_pass_0 : decode cX2_pass 0 = .ok (.aload_n 0, 1) := by decide +kernel
theorem dX2_pass_1 : decode cX2_pass 1 = .ok (.getfield 47, 3) := by decide +kernel
theorem dX2_pass_4 : decode cX2_pass 4 = .ok (.istore_n 1, 1) := by decide +kernel
theorem dX2_pass_5 : decode cX2_pass 5 = .ok (.bipush 8, 2) := by decide +kernel
theorem dX2_pass_7 : decode cX2_pass 7 = .ok (.bipush 8, 2) := by decide +kernel
theorem dX2_pass_9 : decode cX2_pass 9 = .ok (.multianewarray 7 2, 4) := by decide +kernel
theorem dX2_pass_13 : decode cX2_pass 13 = .ok (.astore_n 2, 1) := by decide +kernel
theorem dX2_pass_14 : decode cX2_pass 14 = .ok (.iconst 0, 1) := by decide +kernel
theorem dX2_pass_15 : decode cX2_pass 15 = .ok (.istore_n 3, 1) := by decide +kernel
theorem dX2_pass_16 : decode cX2_pass 16 = .ok (.iload_n 3, 1) := by decide +kernel
theorem dX2_pass_17 : decode cX2_pass 17 = .ok (.bipush 8, 2) := by decide +kernel
theorem dX2_pass_19 : decode cX2_pass 19 = .ok (.if_icmp .ge 49, 3) := by decide +kernel
theorem dX2_pass_22 : decode cX2_pass 22 = .ok (.iconst 0, 1) := by decide +kernel
theorem dX2_pass_23 : decode cX2_pass 23 = .ok (.istore 4, 2) := by decide +kernel
theorem dX2_pass_25 : decode cX2_pass 25 = .ok (.iload 4, 2) := by decide +kernel
theorem dX2_pass_27 : decode cX2_pass 27 = .ok (.bipush 8, 2) := by decide +kernel
theorem dX2_pass_29 : decode cX2_pass 29 = .ok (.if_icmp .ge 33, 3) := by decide +kernel
theorem dX2_pass_32 : decode cX2_pass 32 = .ok (.aload_n 0, 1) := by decide +kernel
theorem dX2_pass_33 : decode cX2_pass 33 = .ok (.getfield 14, 3) := by decide +kernel
theorem dX2_pass_36 : decode cX2_pass 36 = .ok (.iload_n 3, 1) := by decide +kernel
theorem dX2_pass_37 : decode cX2_pass 37 = .ok (.aaload, 1) := by decide +kernel
theorem dX2_pass_38 : decode cX2_pass 38 = .ok (.iload 4, 2) := by decide +kernel
theorem dX2_pass_40 : decode cX2_pass 40 = .ok (.dup2, 1) := by decide +kernel
theorem dX2_pass_41 : decode cX2_pass 41 = .ok (.iaload, 1) := by decide +kernel
theorem dX2_pass_42 : decode cX2_pass 42 = .ok (.aload_n 0, 1) := by decide +kernel
theorem dX2_pass_43 : decode cX2_pass 43 = .ok (.getfield 29, 3) := by decide +kernel
theorem dX2_pass_46 : decode cX2_pass 46 = .ok (.aload_n 0, 1) := by decide +kernel
theorem dX2_pass_47 : decode cX2_pass 47 = .ok (.getfield 37, 3) := by decide +kernel
theorem dX2_pass_50 : decode cX2_pass 50 = .ok (.bipush 12, 2) := by decide +kernel
theorem dX2_pass_52 : decode cX2_pass 52 = .ok (.irem, 1) := by decide +kernel
theorem dX2_pass_53 : decode cX2_pass 53 = .ok (.iaload, 1) := by decide +kernel
theorem dX2_pass_54 : decode cX2_pass 54 = .ok (.iadd, 1) := by decide +kernel
theorem dX2_pass_55 : decode cX2_pass 55 = .ok (.iastore, 1) := by decide +kernel
theorem dX2_pass_56 : decode cX2_pass 56 = .ok (.iinc 4 1, 3) := by decide +kernel
theorem dX2_pass_59 : decode cX2_pass 59 = .ok (.goto (-34), 3) := by decide +kernel
theorem dX2_pass_62 : decode cX2_pass 62 = .ok (.iinc 3 1, 3) := by decide +kernel
theorem dX2_pass_65 : decode cX2_pass 65 = .ok (.goto (-49), 3) := by decide +kernel
theorem dX2_pass_68 : decode cX2_pass 68 = .ok (.iconst 0, 1) := by decide +kernel
theorem dX2_pass_69 : decode cX2_pass 69 = .ok (.istore_n 3, 1) := by decide +kernel
theorem dX2_pass_70 : decode cX2_pass 70 = .ok (.iload_n 3, 1) := by decide +kernel
theorem dX2_pass_71 : decode cX2_pass 71 = .ok (.bipush 8, 2) := by decide +kernel
theorem dX2_pass_73 : decode cX2_pass 73 = .ok (.if_icmp .ge 288, 3) := by decide +kernel
theorem dX2_pass_76 : decode cX2_pass 76 = .ok (.iconst 0, 1) := by decide +kernel
theorem dX2_pass_77 : decode cX2_pass 77 = .ok (.istore 4, 2) := by decide +kernel
theorem dX2_pass_79 : decode cX2_pass 79 = .ok (.iload 4, 2) := by decide +kernel
theorem dX2_pass_81 : decode cX2_pass 81 = .ok (.bipush 8, 2) := by decide +kernel
theorem dX2_pass_83 : decode cX2_pass 83 = .ok (.if_icmp .ge 272, 3) := by decide +kernel
theorem dX2_pass_86 : decode cX2_pass 86 = .ok (.aload_n 2, 1) := by decide +kernel
theorem dX2_pass_87 : decode cX2_pass 87 = .ok (.iload_n 3, 1) := by decide +kernel
theorem dX2_pass_88 : decode cX2_pass 88 = .ok (.aaload, 1) := by decide +kernel
theorem dX2_pass_89 : decode cX2_pass 89 = .ok (.iload 4, 2) := by decide +kernel
theorem dX2_pass_91 : decode cX2_pass 91 = .ok (.dup2, 1) := by decide +kernel
theorem dX2_pass_92 : decode cX2_pass 92 = .ok (.iaload, 1) := by decide +kernel
theorem dX2_pass_93 : decode cX2_pass 93 = .ok (.aload_n 0, 1) := by decide +kernel
theorem dX2_pass_94 : decode cX2_pass 94 = .ok (.getfield 14, 3) := by decide +kernel
theorem dX2_pass_97 : decode cX2_pass 97 = .ok (.iload_n 3, 1) := by decide +kernel
theorem dX2_pass_98 : decode cX2_pass 98 = .ok (.aaload, 1) := by decide +kernel
theorem dX2_pass_99 : decode cX2_pass 99 = .ok (.iload 4, 2) := by decide +kernel
theorem dX2_pass_101 : decode cX2_pass 101 = .ok (.iaload, 1) := by decide +kernel
theorem dX2_pass_102 : decode cX2_pass 102 = .ok (.iadd, 1) := by decide +kernel
theorem dX2_pass_103 : decode cX2_pass 103 = .ok (.iastore, 1) := by decide +kernel
theorem dX2_pass_104 : decode cX2_pass 104 = .ok (.aload_n 0, 1) := by decide +kernel
theorem dX2_pass_105 : decode cX2_pass 105 = .ok (.getfield 14, 3) := by decide +kernel
theorem dX2_pass_108 : decode cX2_pass 108 = .ok (.iload_n 3, 1) := by decide +kernel
theorem dX2_pass_109 : decode cX2_pass 109 = .ok (.aaload, 1) := by decide +kernel
theorem dX2_pass_110 : decode cX2_pass 110 = .ok (.iload 4, 2) := by decide +kernel
theorem dX2_pass_112 : decode cX2_pass 112 = .ok (.iaload, 1) := by decide +kernel
theorem dX2_pass_113 : decode cX2_pass 113 = .ok (.aload_n 0, 1) := by decide +kernel
theorem dX2_pass_114 : decode cX2_pass 114 = .ok (.getfield 17, 3) := by decide +kernel
theorem dX2_pass_117 : decode cX2_pass 117 = .ok (.iload_n 3, 1) := by decide +kernel
theorem dX2_pass_118 : decode cX2_pass 118 = .ok (.aaload, 1) := by decide +kernel
theorem dX2_pass_119 : decode cX2_pass 119 = .ok (.iload 4, 2) := by decide +kernel
theorem dX2_pass_121 : decode cX2_pass 121 = .ok (.iaload, 1) := by decide +kernel
theorem dX2_pass_122 : decode cX2_pass 122 = .ok (.isub, 1) := by decide +kernel
theorem dX2_pass_123 : decode cX2_pass 123 = .ok (.istore 5, 2) := by decide +kernel
theorem dX2_pass_125 : decode cX2_pass 125 = .ok (.iload 5, 2) := by decide +kernel
theorem dX2_pass_127 : decode cX2_pass 127 = .ok (.ifCond .gt 6, 3) := by decide +kernel
theorem dX2_pass_130 : decode cX2_pass 130 = .ok (.goto 219, 3) := by decide +kernel
theorem dX2_pass_133 : decode cX2_pass 133 = .ok (.iload_n 3, 1) := by decide +kernel
theorem dX2_pass_134 : decode cX2_pass 134 = .ok (.istore 6, 2) := by decide +kernel
theorem dX2_pass_136 : decode cX2_pass 136 = .ok (.iload 4, 2) := by decide +kernel
theorem dX2_pass_138 : decode cX2_pass 138 = .ok (.istore 7, 2) := by decide +kernel
theorem dX2_pass_140 : decode cX2_pass 140 = .ok (.ldc 50, 2) := by decide +kernel
theorem dX2_pass_142 : decode cX2_pass 142 = .ok (.istore 8, 2) := by decide +kernel
theorem dX2_pass_144 : decode cX2_pass 144 = .ok (.iconst 3, 1) := by decide +kernel
theorem dX2_pass_145 : decode cX2_pass 145 = .ok (.istore 9, 2) := by decide +kernel
theorem dX2_pass_147 : decode cX2_pass 147 = .ok (.iload 9, 2) := by decide +kernel
theorem dX2_pass_149 : decode cX2_pass 149 = .ok (.ifCond .lt 123, 3) := by decide +kernel
theorem dX2_pass_152 : decode cX2_pass 152 = .ok (.iload 9, 2) := by decide +kernel
theorem dX2_pass_154 : decode cX2_pass 154 = .ok (.ifCond .ne 9, 3) := by decide +kernel
theorem dX2_pass_157 : decode cX2_pass 157 = .ok (.iload_n 3, 1) := by decide +kernel
theorem dX2_pass_158 : decode cX2_pass 158 = .ok (.iconst 1, 1) := by decide +kernel
theorem dX2_pass_159 : decode cX2_pass 159 = .ok (.isub, 1) := by decide +kernel
theorem dX2_pass_160 : decode cX2_pass 160 = .ok (.goto 16, 3) := by decide +kernel
theorem dX2_pass_163 : decode cX2_pass 163 = .ok (.iload 9, 2) := by decide +kernel
theorem dX2_pass_165 : decode cX2_pass 165 = .ok (.iconst 1, 1) := by decide +kernel
theorem dX2_pass_166 : decode cX2_pass 166 = .ok (.if_icmp .ne 9, 3) := by decide +kernel
theorem dX2_pass_169 : decode cX2_pass 169 = .ok (.iload_n 3, 1) := by decide +kernel
theorem dX2_pass_170 : decode cX2_pass 170 = .ok (.iconst 1, 1) := by decide +kernel
theorem dX2_pass_171 : decode cX2_pass 171 = .ok (.iadd, 1) := by decide +kernel
theorem dX2_pass_172 : decode cX2_pass 172 = .ok (.goto 4, 3) := by decide +kernel
theorem dX2_pass_175 : decode cX2_pass 175 = .ok (.iload_n 3, 1) := by decide +kernel
theorem dX2_pass_176 : decode cX2_pass 176 = .ok (.istore 10, 2) := by decide +kernel
theorem dX2_pass_178 : decode cX2_pass 178 = .ok (.iload 9, 2) := by decide +kernel
theorem dX2_pass_180 : decode cX2_pass 180 = .ok (.iconst 2, 1) := by decide +kernel
theorem dX2_pass_181 : decode cX2_pass 181 = .ok (.if_icmp .ne 10, 3) := by decide +kernel
theorem dX2_pass_184 : decode cX2_pass 184 = .ok (.iload 4, 2) := by decide +kernel
theorem dX2_pass_186 : decode cX2_pass 186 = .ok (.iconst 1, 1) := by decide +kernel
theorem dX2_pass_187 : decode cX2_pass 187 = .ok (.isub, 1) := by decide +kernel
theorem dX2_pass_188 : decode cX2_pass 188 = .ok (.goto 18, 3) := by decide +kernel
theorem dX2_pass_191 : decode cX2_pass 191 = .ok (.iload 9, 2) := by decide +kernel
theorem dX2_pass_193 : decode cX2_pass 193 = .ok (.iconst 3, 1) := by decide +kernel
theorem dX2_pass_194 : decode cX2_pass 194 = .ok (.if_icmp .ne 10, 3) := by decide +kernel
theorem dX2_pass_197 : decode cX2_pass 197 = .ok (.iload 4, 2) := by decide +kernel
theorem dX2_pass_199 : decode cX2_pass 199 = .ok (.iconst 1, 1) := by decide +kernel
theorem dX2_pass_200 : decode cX2_pass 200 = .ok (.iadd, 1) := by decide +kernel
theorem dX2_pass_201 : decode cX2_pass 201 = .ok (.goto 5, 3) := by decide +kernel
theorem dX2_pass_204 : decode cX2_pass 204 = .ok (.iload 4, 2) := by decide +kernel
theorem dX2_pass_206 : decode cX2_pass 206 = .ok (.istore 11, 2) := by decide +kernel
theorem dX2_pass_208 : decode cX2_pass 208 = .ok (.iload 10, 2) := by decide +kernel
theorem dX2_pass_210 : decode cX2_pass 210 = .ok (.ifCond .lt 56, 3) := by decide +kernel
theorem dX2_pass_213 : decode cX2_pass 213 = .ok (.iload 10, 2) := by decide +kernel
theorem dX2_pass_215 : decode cX2_pass 215 = .ok (.bipush 7, 2) := by decide +kernel
theorem dX2_pass_217 : decode cX2_pass 217 = .ok (.if_icmp .gt 49, 3) := by decide +kernel
theorem dX2_pass_220 : decode cX2_pass 220 = .ok (.iload 11, 2) := by decide +kernel
theorem dX2_pass_222 : decode cX2_pass 222 = .ok (.ifCond .lt 44, 3) := by decide +kernel
theorem dX2_pass_225 : decode cX2_pass 225 = .ok (.iload 11, 2) := by decide +kernel
theorem dX2_pass_227 : decode cX2_pass 227 = .ok (.bipush 7, 2) := by decide +kernel
theorem dX2_pass_229 : decode cX2_pass 229 = .ok (.if_icmp .gt 37, 3) := by decide +kernel
theorem dX2_pass_232 : decode cX2_pass 232 = .ok (.aload_n 0, 1) := by decide +kernel
theorem dX2_pass_233 : decode cX2_pass 233 = .ok (.iload 10, 2) := by decide +kernel
theorem dX2_pass_235 : decode cX2_pass 235 = .ok (.iload 11, 2) := by decide +kernel
theorem dX2_pass_237 : decode cX2_pass 237 = .ok (.invokevirtual 51, 3) := by decide +kernel
theorem dX2_pass_240 : decode cX2_pass 240 = .ok (.iload 8, 2) := by decide +kernel
theorem dX2_pass_242 : decode cX2_pass 242 = .ok (.if_icmp .le 6, 3) := by decide +kernel
theorem dX2_pass_245 : decode cX2_pass 245 = .ok (.goto 21, 3) := by decide +kernel
theorem dX2_pass_248 : decode cX2_pass 248 = .ok (.aload_n 0, 1) := by decide +kernel
theorem dX2_pass_249 : decode cX2_pass 249 = .ok (.iload 10, 2) := by decide +kernel
theorem dX2_pass_251 : decode cX2_pass 251 = .ok (.iload 11, 2) := by decide +kernel
theorem dX2_pass_253 : decode cX2_pass 253 = .ok (.invokevirtual 51, 3) := by decide +kernel
theorem dX2_pass_256 : decode cX2_pass 256 = .ok (.istore 8, 2) := by decide +kernel
theorem dX2_pass_258 : decode cX2_pass 258 = .ok (.iload 10, 2) := by decide +kernel
theorem dX2_pass_260 : decode cX2_pass 260 = .ok (.istore 6, 2) := by decide +kernel
theorem dX2_pass_262 : decode cX2_pass 262 = .ok (.iload 11, 2) := by decide +kernel
theorem dX2_pass_264 : decode cX2_pass 264 = .ok (.istore 7, 2) := by decide +kernel
theorem dX2_pass_266 : decode cX2_pass 266 = .ok (.iinc 9 (-1), 3) := by decide +kernel
theorem dX2_pass_269 : decode cX2_pass 269 = .ok (.goto (-122), 3) := by decide +kernel
theorem dX2_pass_272 : decode cX2_pass 272 = .ok (.aload_n 0, 1) := by decide +kernel
theorem dX2_pass_273 : decode cX2_pass 273 = .ok (.getfield 9, 3) := by decide +kernel
theorem dX2_pass_276 : decode cX2_pass 276 = .ok (.iload_n 3, 1) := by decide +kernel
theorem dX2_pass_277 : decode cX2_pass 277 = .ok (.aaload, 1) := by decide +kernel
theorem dX2_pass_278 : decode cX2_pass 278 = .ok (.iload 4, 2) := by decide +kernel
theorem dX2_pass_280 : decode cX2_pass 280 = .ok (.iaload, 1) := by decide +kernel
theorem dX2_pass_281 : decode cX2_pass 281 = .ok (.aload_n 0, 1) := by decide +kernel
theorem dX2_pass_282 : decode cX2_pass 282 = .ok (.getfield 14, 3) := by decide +kernel
theorem dX2_pass_285 : decode cX2_pass 285 = .ok (.iload_n 3, 1) := by decide +kernel
theorem dX2_pass_286 : decode cX2_pass 286 = .ok (.aaload, 1) := by decide +kernel
theorem dX2_pass_287 : decode cX2_pass 287 = .ok (.iload 4, 2) := by decide +kernel
theorem dX2_pass_289 : decode cX2_pass 289 = .ok (.iaload, 1) := by decide +kernel
theorem dX2_pass_290 : decode cX2_pass 290 = .ok (.iadd, 1) := by decide +kernel
theorem dX2_pass_291 : decode cX2_pass 291 = .ok (.iload 8, 2) := by decide +kernel
theorem dX2_pass_293 : decode cX2_pass 293 = .ok (.isub, 1) := by decide +kernel
theorem dX2_pass_294 : decode cX2_pass 294 = .ok (.istore 9, 2) := by decide +kernel
theorem dX2_pass_296 : decode cX2_pass 296 = .ok (.iload 9, 2) := by decide +kernel
theorem dX2_pass_298 : decode cX2_pass 298 = .ok (.iconst 2, 1) := by decide +kernel
theorem dX2_pass_299 : decode cX2_pass 299 = .ok (.if_icmp .ge 7, 3) := by decide +kernel
theorem dX2_pass_302 : decode cX2_pass 302 = .ok (.iconst 0, 1) := by decide +kernel
theorem dX2_pass_303 : decode cX2_pass 303 = .ok (.goto 21, 3) := by decide +kernel
theorem dX2_pass_306 : decode cX2_pass 306 = .ok (.iload 9, 2) := by decide +kernel
theorem dX2_pass_308 : decode cX2_pass 308 = .ok (.iconst 2, 1) := by decide +kernel
theorem dX2_pass_309 : decode cX2_pass 309 = .ok (.idiv, 1) := by decide +kernel
theorem dX2_pass_310 : decode cX2_pass 310 = .ok (.iload 5, 2) := by decide +kernel
theorem dX2_pass_312 : decode cX2_pass 312 = .ok (.if_icmp .ge 10, 3) := by decide +kernel
theorem dX2_pass_315 : decode cX2_pass 315 = .ok (.iload 9, 2) := by decide +kernel
theorem dX2_pass_317 : decode cX2_pass 317 = .ok (.iconst 2, 1) := by decide +kernel
theorem dX2_pass_318 : decode cX2_pass 318 = .ok (.idiv, 1) := by decide +kernel
theorem dX2_pass_319 : decode cX2_pass 319 = .ok (.goto 5, 3) := by decide +kernel
theorem dX2_pass_322 : decode cX2_pass 322 = .ok (.iload 5, 2) := by decide +kernel
theorem dX2_pass_324 : decode cX2_pass 324 = .ok (.istore 10, 2) := by decide +kernel
theorem dX2_pass_326 : decode cX2_pass 326 = .ok (.aload_n 2, 1) := by decide +kernel
theorem dX2_pass_327 : decode cX2_pass 327 = .ok (.iload_n 3, 1) := by decide +kernel
theorem dX2_pass_328 : decode cX2_pass 328 = .ok (.aaload, 1) := by decide +kernel
theorem dX2_pass_329 : decode cX2_pass 329 = .ok (.iload 4, 2) := by decide +kernel
theorem dX2_pass_331 : decode cX2_pass 331 = .ok (.dup2, 1) := by decide +kernel
theorem dX2_pass_332 : decode cX2_pass 332 = .ok (.iaload, 1) := by decide +kernel
theorem dX2_pass_333 : decode cX2_pass 333 = .ok (.iload 10, 2) := by decide +kernel
theorem dX2_pass_335 : decode cX2_pass 335 = .ok (.isub, 1) := by decide +kernel
theorem dX2_pass_336 : decode cX2_pass 336 = .ok (.iastore, 1) := by decide +kernel
theorem dX2_pass_337 : decode cX2_pass 337 = .ok (.aload_n 2, 1) := by decide +kernel
theorem dX2_pass_338 : decode cX2_pass 338 = .ok (.iload 6, 2) := by decide +kernel
theorem dX2_pass_340 : decode cX2_pass 340 = .ok (.aaload, 1) := by decide +kernel
theorem dX2_pass_341 : decode cX2_pass 341 = .ok (.iload 7, 2) := by decide +kernel
theorem dX2_pass_343 : decode cX2_pass 343 = .ok (.dup2, 1) := by decide +kernel
theorem dX2_pass_344 : decode cX2_pass 344 = .ok (.iaload, 1) := by decide +kernel
theorem dX2_pass_345 : decode cX2_pass 345 = .ok (.iload 10, 2) := by decide +kernel
theorem dX2_pass_347 : decode cX2_pass 347 = .ok (.iadd, 1) := by decide +kernel
theorem dX2_pass_348 : decode cX2_pass 348 = .ok (.iastore, 1) := by decide +kernel
theorem dX2_pass_349 : decode cX2_pass 349 = .ok (.iinc 4 1, 3) := by decide +kernel
theorem dX2_pass_352 : decode cX2_pass 352 = .ok (.goto (-273), 3) := by decide +kernel
theorem dX2_pass_355 : decode cX2_pass 355 = .ok (.iinc 3 1, 3) := by decide +kernel
theorem dX2_pass_358 : decode cX2_pass 358 = .ok (.goto (-288), 3) := by decide +kernel
theorem dX2_pass_361 : decode cX2_pass 361 = .ok (.aload_n 0, 1) := by decide +kernel
theorem dX2_pass_362 : decode cX2_pass 362 = .ok (.aload_n 2, 1) := by decide +kernel
theorem dX2_pass_363 : decode cX2_pass 363 = .ok (.putfield 14, 3) := by decide +kernel
theorem dX2_pass_366 : decode cX2_pass 366 = .ok (.iconst 0, 1) := by decide +kernel
theorem dX2_pass_367 : decode cX2_pass 367 = .ok (.istore_n 3, 1) := by decide +kernel
theorem dX2_pass_368 : decode cX2_pass 368 = .ok (.iload_n 3, 1) := by decide +kernel
theorem dX2_pass_369 : decode cX2_pass 369 = .ok (.bipush 8, 2) := by decide +kernel
theorem dX2_pass_371 : decode cX2_pass 371 = .ok (.if_icmp .ge 252, 3) := by decide +kernel
theorem dX2_pass_374 : decode cX2_pass 374 = .ok (.iconst 0, 1) := by decide +kernel
theorem dX2_pass_375 : decode cX2_pass 375 = .ok (.istore 4, 2) := by decide +kernel
theorem dX2_pass_377 : decode cX2_pass 377 = .ok (.iload 4, 2) := by decide +kernel
theorem dX2_pass_379 : decode cX2_pass 379 = .ok (.bipush 8, 2) := by decide +kernel
theorem dX2_pass_381 : decode cX2_pass 381 = .ok (.if_icmp .ge 236, 3) := by decide +kernel
theorem dX2_pass_384 : decode cX2_pass 384 = .ok (.aload_n 0, 1) := by decide +kernel
theorem dX2_pass_385 : decode cX2_pass 385 = .ok (.getfield 17, 3) := by decide +kernel
theorem dX2_pass_388 : decode cX2_pass 388 = .ok (.iload_n 3, 1) := by decide +kernel
theorem dX2_pass_389 : decode cX2_pass 389 = .ok (.aaload, 1) := by decide +kernel
theorem dX2_pass_390 : decode cX2_pass 390 = .ok (.iload 4, 2) := by decide +kernel
theorem dX2_pass_392 : decode cX2_pass 392 = .ok (.iaload, 1) := by decide +kernel
theorem dX2_pass_393 : decode cX2_pass 393 = .ok (.ifCond .le 37, 3) := by decide +kernel
theorem dX2_pass_396 : decode cX2_pass 396 = .ok (.aload_n 0, 1) := by decide +kernel
theorem dX2_pass_397 : decode cX2_pass 397 = .ok (.getfield 14, 3) := by decide +kernel
theorem dX2_pass_400 : decode cX2_pass 400 = .ok (.iload_n 3, 1) := by decide +kernel
theorem dX2_pass_401 : decode cX2_pass 401 = .ok (.aaload, 1) := by decide +kernel
theorem dX2_pass_402 : decode cX2_pass 402 = .ok (.iload 4, 2) := by decide +kernel
theorem dX2_pass_404 : decode cX2_pass 404 = .ok (.iaload, 1) := by decide +kernel
theorem dX2_pass_405 : decode cX2_pass 405 = .ok (.aload_n 0, 1) := by decide +kernel
theorem dX2_pass_406 : decode cX2_pass 406 = .ok (.getfield 17, 3) := by decide +kernel
theorem dX2_pass_409 : decode cX2_pass 409 = .ok (.iload_n 3, 1) := by decide +kernel
theorem dX2_pass_410 : decode cX2_pass 410 = .ok (.aaload, 1) := by decide +kernel
theorem dX2_pass_411 : decode cX2_pass 411 = .ok (.iload 4, 2) := by decide +kernel
theorem dX2_pass_413 : decode cX2_pass 413 = .ok (.iaload, 1) := by decide +kernel
theorem dX2_pass_414 : decode cX2_pass 414 = .ok (.if_icmp .lt 16, 3) := by decide +kernel
theorem dX2_pass_417 : decode cX2_pass 417 = .ok (.aload_n 0, 1) := by decide +kernel
theorem dX2_pass_418 : decode cX2_pass 418 = .ok (.getfield 20, 3) := by decide +kernel
theorem dX2_pass_421 : decode cX2_pass 421 = .ok (.iload_n 3, 1) := by decide +kernel
theorem dX2_pass_422 : decode cX2_pass 422 = .ok (.aaload, 1) := by decide +kernel
theorem dX2_pass_423 : decode cX2_pass 423 = .ok (.iload 4, 2) := by decide +kernel
theorem dX2_pass_425 : decode cX2_pass 425 = .ok (.dup2, 1) := by decide +kernel
theorem dX2_pass_426 : decode cX2_pass 426 = .ok (.iaload, 1) := by decide +kernel
theorem dX2_pass_427 : decode cX2_pass 427 = .ok (.iconst 1, 1) := by decide +kernel
theorem dX2_pass_428 : decode cX2_pass 428 = .ok (.iadd, 1) := by decide +kernel
theorem dX2_pass_429 : decode cX2_pass 429 = .ok (.iastore, 1) := by decide +kernel
theorem dX2_pass_430 : decode cX2_pass 430 = .ok (.aload_n 0, 1) := by decide +kernel
theorem dX2_pass_431 : decode cX2_pass 431 = .ok (.getfield 20, 3) := by decide +kernel
theorem dX2_pass_434 : decode cX2_pass 434 = .ok (.iload_n 3, 1) := by decide +kernel
theorem dX2_pass_435 : decode cX2_pass 435 = .ok (.aaload, 1) := by decide +kernel
theorem dX2_pass_436 : decode cX2_pass 436 = .ok (.iload 4, 2) := by decide +kernel
theorem dX2_pass_438 : decode cX2_pass 438 = .ok (.iaload, 1) := by decide +kernel
theorem dX2_pass_439 : decode cX2_pass 439 = .ok (.bipush 9, 2) := by decide +kernel
theorem dX2_pass_441 : decode cX2_pass 441 = .ok (.if_icmp .le 33, 3) := by decide +kernel
theorem dX2_pass_444 : decode cX2_pass 444 = .ok (.aload_n 0, 1) := by decide +kernel
theorem dX2_pass_445 : decode cX2_pass 445 = .ok (.getfield 17, 3) := by decide +kernel
theorem dX2_pass_448 : decode cX2_pass 448 = .ok (.iload_n 3, 1) := by decide +kernel
theorem dX2_pass_449 : decode cX2_pass 449 = .ok (.aaload, 1) := by decide +kernel
theorem dX2_pass_450 : decode cX2_pass 450 = .ok (.iload 4, 2) := by decide +kernel
theorem dX2_pass_452 : decode cX2_pass 452 = .ok (.iconst 0, 1) := by decide +kernel
theorem dX2_pass_453 : decode cX2_pass 453 = .ok (.iastore, 1) := by decide +kernel
theorem dX2_pass_454 : decode cX2_pass 454 = .ok (.aload_n 0, 1) := by decide +kernel
theorem dX2_pass_455 : decode cX2_pass 455 = .ok (.getfield 20, 3) := by decide +kernel
theorem dX2_pass_458 : decode cX2_pass 458 = .ok (.iload_n 3, 1) := by decide +kernel
theorem dX2_pass_459 : decode cX2_pass 459 = .ok (.aaload, 1) := by decide +kernel
theorem dX2_pass_460 : decode cX2_pass 460 = .ok (.iload 4, 2) := by decide +kernel
theorem dX2_pass_462 : decode cX2_pass 462 = .ok (.iconst 0, 1) := by decide +kernel
theorem dX2_pass_463 : decode cX2_pass 463 = .ok (.iastore, 1) := by decide +kernel
theorem dX2_pass_464 : decode cX2_pass 464 = .ok (.aload_n 0, 1) := by decide +kernel
theorem dX2_pass_465 : decode cX2_pass 465 = .ok (.dup, 1) := by decide +kernel
theorem dX2_pass_466 : decode cX2_pass 466 = .ok (.getfield 41, 3) := by decide +kernel
theorem dX2_pass_469 : decode cX2_pass 469 = .ok (.iconst 1, 1) := by decide +kernel
theorem dX2_pass_470 : decode cX2_pass 470 = .ok (.iadd, 1) := by decide +kernel
theorem dX2_pass_471 : decode cX2_pass 471 = .ok (.putfield 41, 3) := by decide +kernel
theorem dX2_pass_474 : decode cX2_pass 474 = .ok (.aload_n 0, 1) := by decide +kernel
theorem dX2_pass_475 : decode cX2_pass 475 = .ok (.getfield 14, 3) := by decide +kernel
theorem dX2_pass_478 : decode cX2_pass 478 = .ok (.iload_n 3, 1) := by decide +kernel
theorem dX2_pass_479 : decode cX2_pass 479 = .ok (.aaload, 1) := by decide +kernel
theorem dX2_pass_480 : decode cX2_pass 480 = .ok (.iload 4, 2) := by decide +kernel
theorem dX2_pass_482 : decode cX2_pass 482 = .ok (.iaload, 1) := by decide +kernel
theorem dX2_pass_483 : decode cX2_pass 483 = .ok (.aload_n 0, 1) := by decide +kernel
theorem dX2_pass_484 : decode cX2_pass 484 = .ok (.getfield 23, 3) := by decide +kernel
theorem dX2_pass_487 : decode cX2_pass 487 = .ok (.iload_n 3, 1) := by decide +kernel
theorem dX2_pass_488 : decode cX2_pass 488 = .ok (.aaload, 1) := by decide +kernel
theorem dX2_pass_489 : decode cX2_pass 489 = .ok (.iload 4, 2) := by decide +kernel
theorem dX2_pass_491 : decode cX2_pass 491 = .ok (.iaload, 1) := by decide +kernel
theorem dX2_pass_492 : decode cX2_pass 492 = .ok (.if_icmp .ge 15, 3) := by decide +kernel
theorem dX2_pass_495 : decode cX2_pass 495 = .ok (.aload_n 0, 1) := by decide +kernel
theorem dX2_pass_496 : decode cX2_pass 496 = .ok (.getfield 14, 3) := by decide +kernel
theorem dX2_pass_499 : decode cX2_pass 499 = .ok (.iload_n 3, 1) := by decide +kernel
theorem dX2_pass_500 : decode cX2_pass 500 = .ok (.aaload, 1) := by decide +kernel
theorem dX2_pass_501 : decode cX2_pass 501 = .ok (.iload 4, 2) := by decide +kernel
theorem dX2_pass_503 : decode cX2_pass 503 = .ok (.iaload, 1) := by decide +kernel
theorem dX2_pass_504 : decode cX2_pass 504 = .ok (.goto 12, 3) := by decide +kernel
theorem dX2_pass_507 : decode cX2_pass 507 = .ok (.aload_n 0, 1) := by decide +kernel
theorem dX2_pass_508 : decode cX2_pass 508 = .ok (.getfield 23, 3) := by decide +kernel
theorem dX2_pass_511 : decode cX2_pass 511 = .ok (.iload_n 3, 1) := by decide +kernel
theorem dX2_pass_512 : decode cX2_pass 512 = .ok (.aaload, 1) := by decide +kernel
theorem dX2_pass_513 : decode cX2_pass 513 = .ok (.iload 4, 2) := by decide +kernel
theorem dX2_pass_515 : decode cX2_pass 515 = .ok (.iaload, 1) := by decide +kernel
theorem dX2_pass_516 : decode cX2_pass 516 = .ok (.istore 5, 2) := by decide +kernel
theorem dX2_pass_518 : decode cX2_pass 518 = .ok (.aload_n 0, 1) := by decide +kernel
theorem dX2_pass_519 : decode cX2_pass 519 = .ok (.getfield 14, 3) := by decide +kernel
theorem dX2_pass_522 : decode cX2_pass 522 = .ok (.iload_n 3, 1) := by decide +kernel
theorem dX2_pass_523 : decode cX2_pass 523 = .ok (.aaload, 1) := by decide +kernel
theorem dX2_pass_524 : decode cX2_pass 524 = .ok (.iload 4, 2) := by decide +kernel
theorem dX2_pass_526 : decode cX2_pass 526 = .ok (.dup2, 1) := by decide +kernel
theorem dX2_pass_527 : decode cX2_pass 527 = .ok (.iaload, 1) := by decide +kernel
theorem dX2_pass_528 : decode cX2_pass 528 = .ok (.iload 5, 2) := by decide +kernel
theorem dX2_pass_530 : decode cX2_pass 530 = .ok (.isub, 1) := by decide +kernel
theorem dX2_pass_531 : decode cX2_pass 531 = .ok (.iastore, 1) := by decide +kernel
theorem dX2_pass_532 : decode cX2_pass 532 = .ok (.aload_n 0, 1) := by decide +kernel
theorem dX2_pass_533 : decode cX2_pass 533 = .ok (.dup, 1) := by decide +kernel
theorem dX2_pass_534 : decode cX2_pass 534 = .ok (.getfield 44, 3) := by decide +kernel
theorem dX2_pass_537 : decode cX2_pass 537 = .ok (.iload 5, 2) := by decide +kernel
theorem dX2_pass_539 : decode cX2_pass 539 = .ok (.iadd, 1) := by decide +kernel
theorem dX2_pass_540 : decode cX2_pass 540 = .ok (.putfield 44, 3) := by decide +kernel
theorem dX2_pass_543 : decode cX2_pass 543 = .ok (.aload_n 0, 1) := by decide +kernel
theorem dX2_pass_544 : decode cX2_pass 544 = .ok (.getfield 14, 3) := by decide +kernel
theorem dX2_pass_547 : decode cX2_pass 547 = .ok (.iload_n 3, 1) := by decide +kernel
theorem dX2_pass_548 : decode cX2_pass 548 = .ok (.aaload, 1) := by decide +kernel
theorem dX2_pass_549 : decode cX2_pass 549 = .ok (.iload 4, 2) := by decide +kernel
theorem dX2_pass_551 : decode cX2_pass 551 = .ok (.iaload, 1) := by decide +kernel
theorem dX2_pass_552 : decode cX2_pass 552 = .ok (.iconst 3, 1) := by decide +kernel
theorem dX2_pass_553 : decode cX2_pass 553 = .ok (.if_icmp .lt 58, 3) := by decide +kernel
theorem dX2_pass_556 : decode cX2_pass 556 = .ok (.aload_n 0, 1) := by decide +kernel
theorem dX2_pass_557 : decode cX2_pass 557 = .ok (.getfield 26, 3) := by decide +kernel
theorem dX2_pass_560 : decode cX2_pass 560 = .ok (.iload_n 3, 1) := by decide +kernel
theorem dX2_pass_561 : decode cX2_pass 561 = .ok (.aaload, 1) := by decide +kernel
theorem dX2_pass_562 : decode cX2_pass 562 = .ok (.iload 4, 2) := by decide +kernel
theorem dX2_pass_564 : decode cX2_pass 564 = .ok (.iaload, 1) := by decide +kernel
theorem dX2_pass_565 : decode cX2_pass 565 = .ok (.ifCond .ne 6, 3) := by decide +kernel
theorem dX2_pass_568 : decode cX2_pass 568 = .ok (.goto 43, 3) := by decide +kernel
theorem dX2_pass_571 : decode cX2_pass 571 = .ok (.aload_n 0, 1) := by decide +kernel
theorem dX2_pass_572 : decode cX2_pass 572 = .ok (.getfield 26, 3) := by decide +kernel
theorem dX2_pass_575 : decode cX2_pass 575 = .ok (.iload_n 3, 1) := by decide +kernel
theorem dX2_pass_576 : decode cX2_pass 576 = .ok (.aaload, 1) := by decide +kernel
theorem dX2_pass_577 : decode cX2_pass 577 = .ok (.iload 4, 2) := by decide +kernel
theorem dX2_pass_579 : decode cX2_pass 579 = .ok (.iaload, 1) := by decide +kernel
theorem dX2_pass_580 : decode cX2_pass 580 = .ok (.iconst 3, 1) := by decide +kernel
theorem dX2_pass_581 : decode cX2_pass 581 = .ok (.idiv, 1) := by decide +kernel
theorem dX2_pass_582 : decode cX2_pass 582 = .ok (.iconst 1, 1) := by decide +kernel
theorem dX2_pass_583 : decode cX2_pass 583 = .ok (.iadd, 1) := by decide +kernel
theorem dX2_pass_584 : decode cX2_pass 584 = .ok (.istore 6, 2) := by decide +kernel
theorem dX2_pass_586 : decode cX2_pass 586 = .ok (.aload_n 0, 1) := by decide +kernel
theorem dX2_pass_587 : decode cX2_pass 587 = .ok (.getfield 26, 3) := by decide +kernel
theorem dX2_pass_590 : decode cX2_pass 590 = .ok (.iload_n 3, 1) := by decide +kernel
theorem dX2_pass_591 : decode cX2_pass 591 = .ok (.aaload, 1) := by decide +kernel
theorem dX2_pass_592 : decode cX2_pass 592 = .ok (.iload 4, 2) := by decide +kernel
theorem dX2_pass_594 : decode cX2_pass 594 = .ok (.dup2, 1) := by decide +kernel
theorem dX2_pass_595 : decode cX2_pass 595 = .ok (.iaload, 1) := by decide +kernel
theorem dX2_pass_596 : decode cX2_pass 596 = .ok (.iload 6, 2) := by decide +kernel
theorem dX2_pass_598 : decode cX2_pass 598 = .ok (.isub, 1) := by decide +kernel
theorem dX2_pass_599 : decode cX2_pass 599 = .ok (.iastore, 1) := by decide +kernel
theorem dX2_pass_600 : decode cX2_pass 600 = .ok (.aload_n 0, 1) := by decide +kernel
theorem dX2_pass_601 : decode cX2_pass 601 = .ok (.dup, 1) := by decide +kernel
theorem dX2_pass_602 : decode cX2_pass 602 = .ok (.getfield 47, 3) := by decide +kernel
theorem dX2_pass_605 : decode cX2_pass 605 = .ok (.iload 6, 2) := by decide +kernel
theorem dX2_pass_607 : decode cX2_pass 607 = .ok (.iadd, 1) := by decide +kernel
theorem dX2_pass_608 : decode cX2_pass 608 = .ok (.putfield 47, 3) := by decide +kernel
theorem dX2_pass_611 : decode cX2_pass 611 = .ok (.iinc 4 1, 3) := by decide +kernel
theorem dX2_pass_614 : decode cX2_pass 614 = .ok (.goto (-237), 3) := by decide +kernel
theorem dX2_pass_617 : decode cX2_pass 617 = .ok (.iinc 3 1, 3) := by decide +kernel
theorem dX2_pass_620 : decode cX2_pass 620 = .ok (.goto (-252), 3) := by decide +kernel
theorem dX2_pass_623 : decode cX2_pass 623 = .ok (.aload_n 0, 1) := by decide +kernel
theorem dX2_pass_624 : decode cX2_pass 624 = .ok (.dup, 1) := by decide +kernel
theorem dX2_pass_625 : decode cX2_pass 625 = .ok (.getfield 37, 3) := by decide +kernel
theorem dX2_pass_628 : decode cX2_pass 628 = .ok (.iconst 1, 1) := by decide +kernel
theorem dX2_pass_629 : decode cX2_pass 629 = .ok (.iadd, 1) := by decide +kernel
theorem dX2_pass_630 : decode cX2_pass 630 = .ok (.putfield 37, 3) := by decide +kernel
theorem dX2_pass_633 : decode cX2_pass 633 = .ok (.aload_n 0, 1) := by decide +kernel
theorem dX2_pass_634 : decode cX2_pass 634 = .ok (.getfield 47, 3) := by decide +kernel
theorem dX2_pass_637 : decode cX2_pass 637 = .ok (.iload_n 1, 1) := by decide +kernel
theorem dX2_pass_638 : decode cX2_pass 638 = .ok (.isub, 1) := by decide +kernel
theorem dX2_pass_639 : decode cX2_pass 639 = .ok (.ireturn, 1) := by decide +kernel
set_option maxRecDepth 20000 in
theorem ggX2_spread_X2_spread : GoodIn wsX2_spread wsX2_spread := goodIn_r _ [0, 1, 2, 3, 4, 5, 6, 7, 8, 9, 10, 11, 12, 13, 14, 15, 16] (by decide +kernel) (by decide +kernel)
set_option maxRecDepth 20000 in
theorem gX2_spread_X2_spread : GoodIn wsX2_spread (wsV RX2 55 RX2 yX2_spread wsX2_spread) := goodIn_app (goodIn_of _ (by decide +kernel)) ggX2_spread_X2_spread
theorem dX2_spread_0 : decode cX2_spread 0 = .ok (.iload_n 2, 1) := by decide +kernel
theorem dX2_spread_1 : decode cX2_spread 1 = .ok (.ifCond .lt 38, 3) := by decide +kernel
theorem dX2_spread_4 : decode cX2_spread 4 = .ok (.iload_n 2, 1) := by decide +kernel
theorem dX2_spread_5 : decode cX2_spread 5 = .ok (.bipush 7, 2) := by decide +kernel
theorem dX2_spread_7 : decode cX2_spread 7 = .ok (.if_icmp .gt 32, 3) := by decide +kernel
theorem dX2_spread_10 : decode cX2_spread 10 = .ok (.iload_n 3, 1) := by decide +kernel
theorem dX2_spread_11 : decode cX2_spread 11 = .ok (.ifCond .lt 28, 3) := by decide +kernel
theorem dX2_spread_14 : decode cX2_spread 14 = .ok (.iload_n 3, 1) := by decide +kernel
theorem dX2_spread_15 : decode cX2_spread 15 = .ok (.bipush 7, 2) := by decide +kernel
theorem dX2_spread_17 : decode cX2_spread 17 = .ok (.if_icmp .gt 22, 3) := by decide +kernel
theorem dX2_spread_20 : decode cX2_spread 20 = .ok (.aload_n 1, 1) := by decide +kernel
theorem dX2_spread_21 : decode cX2_spread 21 = .ok (.iload_n 2, 1) := by decide +kernel
theorem dX2_spread_22 : decode cX2_spread 22 = .ok (.aaload, 1) := by decide +kernel
theorem dX2_spread_23 : decode cX2_spread 23 = .ok (.iload_n 3, 1) := by decide +kernel
theorem dX2_spread_24 : decode cX2_spread 24 = .ok (.baload, 1) := by decide +kernel
theorem dX2_spread_25 : decode cX2_spread 25 = .ok (.ifCond .ne 14, 3) := by decide +kernel
theorem dX2_spread_28 : decode cX2_spread 28 = .ok (.aload_n 0, 1) := by decide +kernel
theorem dX2_spread_29 : decode cX2_spread 29 = .ok (.getfield 14, 3) := by decide +kernel
theorem dX2_spread_32 : decode cX2_spread 32 = .ok (.iload_n 2, 1) := by decide +kernel
theorem dX2_spread_33 : decode cX2_spread 33 = .ok (.aaload, 1) := by decide +kernel
theorem dX2_spread_34 : decode cX2_spread 34 = .ok (.iload_n 3, 1) := by decide +kernel
theorem dX2_spread_35 : decode cX2_spread 35 = .ok (.iaload, 1) := by decide +kernel
theorem dX2_spread_36 : decode cX2_spread 36 = .ok (.ifCond .ne 5, 3) := by decide +kernel
theorem dX2_spread_39 : decode cX2_spread 39 = .ok (.iconst 0, 1) := by decide +kernel
theorem dX2_spread_40 : decode cX2_spread 40 = .ok (.ireturn, 1) := by decide +kernel
theorem dX2_spread_41 : decode cX2_spread 41 = .ok (.aload_n 1, 1) := by decide +kernel
theorem dX2_spread_42 : decode cX2_spread 42 = .ok (.iload_n 2, 1) := by decide +kernel
theorem dX2_spread_43 : decode cX2_spread 43 = .ok (.aaload, 1) := by decide +kernel
theorem dX2_spread_44 : decode cX2_spread 44 = .ok (.iload_n 3, 1) := by decide +kernel
theorem dX2_spread_45 : decode cX2_spread 45 = .ok (.iconst 1, 1) := by decide +kernel
theorem dX2_spread_46 : decode cX2_spread 46 = .ok (.bastore, 1) := by decide +kernel
theorem dX2_spread_47 : decode cX2_spread 47 = .ok (.iconst 1, 1) := by decide +kernel
theorem dX2_spread_48 : decode cX2_spread 48 = .ok (.aload_n 0, 1) := by decide +kernel
theorem dX2_spread_49 : decode cX2_spread 49 = .ok (.aload_n 1, 1) := by decide +kernel
theorem dX2_spread_50 : decode cX2_spread 50 = .ok (.iload_n 2, 1) := by decide +kernel
theorem dX2_spread_51 : decode cX2_spread 51 = .ok (.iconst 1, 1) := by decide +kernel
theorem dX2_spread_52 : decode cX2_spread 52 = .ok (.isub, 1) := by decide +kernel
theorem dX2_spread_53 : decode cX2_spread 53 = .ok (.iload_n 3, 1) := by decide +kernel
theorem dX2_spread_54 : decode cX2_spread 54 = .ok (.invokevirtual 55, 3) := by decide +kernel
theorem dX2_spread_57 : decode cX2_spread 57 = .ok (.iadd, 1) := by decide +kernel
theorem dX2_spread_58 : decode cX2_spread 58 = .ok (.aload_n 0, 1) := by decide +kernel
theorem dX2_spread_59 : decode cX2_spread 59 = .ok (.aload_n 1, 1) := by decide +kernel
theorem dX2_spread_60 : decode cX2_spread 60 = .ok (.iload_n 2, 1) := by decide +kernel
theorem dX2_spread_61 : decode cX2_spread 61 = .ok (.iconst 1, 1) := by decide +kernel
theorem dX2_spread_62 : decode cX2_spread 62 = .ok (.iadd, 1) := by decide +kernel
theorem dX2_spread_63 : decode cX2_spread 63 = .ok (.iload_n 3, 1) := by decide +kernel
theorem dX2_spread_64 : decode cX2_spread 64 = .ok (.invokevirtual 55, 3) := by decide +kernel
theorem dX2_spread_67 : decode cX2_spread 67 = .ok (.iadd, 1) := by decide +kernel
theorem dX2_spread_68 : decode cX2_spread 68 = .ok (.aload_n 0, 1) := by decide +kernel
theorem dX2_spread_69 : decode cX2_spread 69 = .ok (.aload_n 1, 1) := by decide +kernel
theorem dX2_spread_70 : decode cX2_spread 70 = .ok (.iload_n 2, 1) := by decide +kernel
theorem dX2_spread_71 : decode cX2_spread 71 = .ok (.iload_n 3, 1) := by decide +kernel
theorem dX2_spread_72 : decode cX2_spread 72 = .ok (.iconst 1, 1) := by decide +kernel
theorem dX2_spread_73 : decode cX2_spread 73 = .ok (.isub, 1) := by decide +kernel
theorem dX2_spread_74 : decode cX2_spread 74 = .ok (.invokevirtual 55, 3) := by decide +kernel
theorem dX2_spread_77 : decode cX2_spread 77 = .ok (.iadd, 1) := by decide +kernel
theorem dX2_spread_78 : decode cX2_spread 78 = .ok (.aload_n 0, 1) := by decide +kernel
theorem dX2_spread_79 : decode cX2_spread 79 = .ok (.aload_n 1, 1) := by decide +kernel
theorem dX2_spread_80 : decode cX2_spread 80 = .ok (.iload_n 2, 1) := by decide +kernel
theorem dX2_spread_81 : decode cX2_spread 81 = .ok (.iload_n 3, 1) := by decide +kernel
theorem dX2_spread_82 : decode cX2_spread 82 = .ok (.iconst 1, 1) := by decide +kernel
theorem dX2_spread_83 : decode cX2_spread 83 = .ok (.iadd, 1) := by decide +kernel
theorem dX2_spread_84 : decode cX2_spread 84 = .ok (.invokevirtual 55, 3) := by decide +kernel
theorem dX2_spread_87 : decode cX2_spread 87 = .ok (.iadd, 1) := by decide +kernel
theorem dX2_spread_88 : decode cX2_spread 88 = .ok (.ireturn, 1) := by decide +kernel
set_option maxRecDepth 20000 in
theorem ggX2_told_X2_spread : GoodIn wsX2_told wsX2_spread := goodIn_r _ [14, 3, 10, 11, 12, 13, 15, 16, 17, 18, 19, 20, 21, 22, 23, 24, 25] (by decide +kernel) (by decide +kernel)
set_option maxRecDepth 20000 in
theorem gX2_told_X2_spread : GoodIn wsX2_told (wsV RX2 55 RX2 yX2_spread wsX2_spread) := goodIn_app (goodIn_of _ (by decide +kernel)) ggX2_told_X2_spread
theorem dX2_told_0 : decode cX2_told 0 = .ok (.iconst 0, 1) := by decide +kernel
theorem dX2_told_1 : decode cX2_told 1 = .ok (.istore_n 2, 1) := by decide +kernel
theorem dX2_told_2 : decode cX2_told 2 = .ok (.bipush 8, 2) := by decide +kernel
theorem dX2_told_4 : decode cX2_told 4 = .ok (.bipush 8, 2) := by decide +kernel
theorem dX2_told_6 : decode cX2_told 6 = .ok (.multianewarray 59 2, 4) := by decide +kernel
theorem dX2_told_10 : decode cX2_told 10 = .ok (.astore_n 3, 1) := by decide +kernel
theorem dX2_told_11 : decode cX2_told 11 = .ok (.iconst 0, 1) := by decide +kernel
theorem dX2_told_12 : decode cX2_told 12 = .ok (.istore 4, 2) := by decide +kernel
theorem dX2_told_14 : decode cX2_told 14 = .ok (.iload 4, 2) := by decide +kernel
theorem dX2_told_16 : decode cX2_told 16 = .ok (.bipush 8, 2) := by decide +kernel
theorem dX2_told_18 : decode cX2_told 18 = .ok (.if_icmp .ge 140, 3) := by decide +kernel
theorem dX2_told_21 : decode cX2_told 21 = .ok (.iconst 0, 1) := by decide +kernel
theorem dX2_told_22 : decode cX2_told 22 = .ok (.istore 5, 2) := by decide +kernel
theorem dX2_told_24 : decode cX2_told 24 = .ok (.iload 5, 2) := by decide +kernel
theorem dX2_told_26 : decode cX2_told 26 = .ok (.bipush 8, 2) := by decide +kernel
theorem dX2_told_28 : decode cX2_told 28 = .ok (.if_icmp .ge 124, 3) := by decide +kernel
theorem dX2_told_31 : decode cX2_told 31 = .ok (.iload_n 1, 1) := by decide +kernel
theorem dX2_told_32 : decode cX2_told 32 = .ok (.iconst 1, 1) := by decide +kernel
theorem dX2_told_33 : decode cX2_told 33 = .ok (.if_icmp .ne 16, 3) := by decide +kernel
theorem dX2_told_36 : decode cX2_told 36 = .ok (.iload_n 2, 1) := by decide +kernel
theorem dX2_told_37 : decode cX2_told 37 = .ok (.aload_n 0, 1) := by decide +kernel
theorem dX2_told_38 : decode cX2_told 38 = .ok (.getfield 14, 3) := by decide +kernel
theorem dX2_told_41 : decode cX2_told 41 = .ok (.iload 4, 2) := by decide +kernel
theorem dX2_told_43 : decode cX2_told 43 = .ok (.aaload, 1) := by decide +kernel
theorem dX2_told_44 : decode cX2_told 44 = .ok (.iload 5, 2) := by decide +kernel
theorem dX2_told_46 : decode cX2_told 46 = .ok (.iaload, 1) := by decide +kernel
theorem dX2_told_47 : decode cX2_told 47 = .ok (.iadd, 1) := by decide +kernel
theorem dX2_told_48 : decode cX2_told 48 = .ok (.istore_n 2, 1) := by decide +kernel
theorem dX2_told_49 : decode cX2_told 49 = .ok (.iload_n 1, 1) := by decide +kernel
theorem dX2_told_50 : decode cX2_told 50 = .ok (.iconst 2, 1) := by decide +kernel
theorem dX2_told_51 : decode cX2_told 51 = .ok (.if_icmp .ne 24, 3) := by decide +kernel
theorem dX2_told_54 : decode cX2_told 54 = .ok (.iload_n 2, 1) := by decide +kernel
theorem dX2_told_55 : decode cX2_told 55 = .ok (.aload_n 0, 1) := by decide +kernel
theorem dX2_told_56 : decode cX2_told 56 = .ok (.getfield 14, 3) := by decide +kernel
theorem dX2_told_59 : decode cX2_told 59 = .ok (.iload 4, 2) := by decide +kernel
theorem dX2_told_61 : decode cX2_told 61 = .ok (.aaload, 1) := by decide +kernel
theorem dX2_told_62 : decode cX2_told 62 = .ok (.iload 5, 2) := by decide +kernel
theorem dX2_told_64 : decode cX2_told 64 = .ok (.iaload, 1) := by decide +kernel
theorem dX2_told_65 : decode cX2_told 65 = .ok (.ifCond .le 7, 3) := by decide +kernel
theorem dX2_told_68 : decode cX2_told 68 = .ok (.iconst 1, 1) := by decide +kernel
theorem dX2_told_69 : decode cX2_told 69 = .ok (.goto 4, 3) := by decide +kernel
theorem dX2_told_72 : decode cX2_told 72 = .ok (.iconst 0, 1) := by decide +kernel
theorem dX2_told_73 : decode cX2_told 73 = .ok (.iadd, 1) := by decide +kernel
theorem dX2_told_74 : decode cX2_told 74 = .ok (.istore_n 2, 1) := by decide +kernel
theorem dX2_told_75 : decode cX2_told 75 = .ok (.iload_n 1, 1) := by decide +kernel
theorem dX2_told_76 : decode cX2_told 76 = .ok (.iconst 3, 1) := by decide +kernel
theorem dX2_told_77 : decode cX2_told 77 = .ok (.if_icmp .ne 24, 3) := by decide +kernel
theorem dX2_told_80 : decode cX2_told 80 = .ok (.iload_n 2, 1) := by decide +kernel
theorem dX2_told_81 : decode cX2_told 81 = .ok (.aload_n 0, 1) := by decide +kernel
theorem dX2_told_82 : decode cX2_told 82 = .ok (.getfield 17, 3) := by decide +kernel
theorem dX2_told_85 : decode cX2_told 85 = .ok (.iload 4, 2) := by decide +kernel
theorem dX2_told_87 : decode cX2_told 87 = .ok (.aaload, 1) := by decide +kernel
theorem dX2_told_88 : decode cX2_told 88 = .ok (.iload 5, 2) := by decide +kernel
theorem dX2_told_90 : decode cX2_told 90 = .ok (.iaload, 1) := by decide +kernel
theorem dX2_told_91 : decode cX2_told 91 = .ok (.ifCond .le 7, 3) := by decide +kernel
theorem dX2_told_94 : decode cX2_told 94 = .ok (.iconst 1, 1) := by decide +kernel
theorem dX2_told_95 : decode cX2_told 95 = .ok (.goto 4, 3) := by decide +kernel
theorem dX2_told_98 : decode cX2_told 98 = .ok (.iconst 0, 1) := by decide +kernel
theorem dX2_told_99 : decode cX2_told 99 = .ok (.iadd, 1) := by decide +kernel
theorem dX2_told_100 : decode cX2_told 100 = .ok (.istore_n 2, 1) := by decide +kernel
theorem dX2_told_101 : decode cX2_told 101 = .ok (.iload_n 1, 1) := by decide +kernel
theorem dX2_told_102 : decode cX2_told 102 = .ok (.bipush 6, 2) := by decide +kernel
theorem dX2_told_104 : decode cX2_told 104 = .ok (.if_icmp .ne 16, 3) := by decide +kernel
theorem dX2_told_107 : decode cX2_told 107 = .ok (.iload_n 2, 1) := by decide +kernel
theorem dX2_told_108 : decode cX2_told 108 = .ok (.aload_n 0, 1) := by decide +kernel
theorem dX2_told_109 : decode cX2_told 109 = .ok (.getfield 26, 3) := by decide +kernel
theorem dX2_told_112 : decode cX2_told 112 = .ok (.iload 4, 2) := by decide +kernel
theorem dX2_told_114 : decode cX2_told 114 = .ok (.aaload, 1) := by decide +kernel
theorem dX2_told_115 : decode cX2_told 115 = .ok (.iload 5, 2) := by decide +kernel
theorem dX2_told_117 : decode cX2_told 117 = .ok (.iaload, 1) := by decide +kernel
theorem dX2_told_118 : decode cX2_told 118 = .ok (.iadd, 1) := by decide +kernel
theorem dX2_told_119 : decode cX2_told 119 = .ok (.istore_n 2, 1) := by decide +kernel
theorem dX2_told_120 : decode cX2_told 120 = .ok (.iload_n 1, 1) := by decide +kernel
theorem dX2_told_121 : decode cX2_told 121 = .ok (.bipush 8, 2) := by decide +kernel
theorem dX2_told_123 : decode cX2_told 123 = .ok (.if_icmp .ne 23, 3) := by decide +kernel
theorem dX2_told_126 : decode cX2_told 126 = .ok (.iload_n 2, 1) := by decide +kernel
theorem dX2_told_127 : decode cX2_told 127 = .ok (.aload_n 0, 1) := by decide +kernel
theorem dX2_told_128 : decode cX2_told 128 = .ok (.aload_n 3, 1) := by decide +kernel
theorem dX2_told_129 : decode cX2_told 129 = .ok (.iload 4, 2) := by decide +kernel
theorem dX2_told_131 : decode cX2_told 131 = .ok (.iload 5, 2) := by decide +kernel
theorem dX2_told_133 : decode cX2_told 133 = .ok (.invokevirtual 55, 3) := by decide +kernel
theorem dX2_told_136 : decode cX2_told 136 = .ok (.ifCond .le 7, 3) := by decide +kernel
theorem dX2_told_139 : decode cX2_told 139 = .ok (.iconst 1, 1) := by decide +kernel
theorem dX2_told_140 : decode cX2_told 140 = .ok (.goto 4, 3) := by decide +kernel
theorem dX2_told_143 : decode cX2_told 143 = .ok (.iconst 0, 1) := by decide +kernel
theorem dX2_told_144 : decode cX2_told 144 = .ok (.iadd, 1) := by decide +kernel
theorem dX2_told_145 : decode cX2_told 145 = .ok (.istore_n 2, 1) := by decide +kernel
theorem dX2_told_146 : decode cX2_told 146 = .ok (.iinc 5 1, 3) := by decide +kernel
theorem dX2_told_149 : decode cX2_told 149 = .ok (.goto (-125), 3) := by decide +kernel
theorem dX2_told_152 : decode cX2_told 152 = .ok (.iinc 4 1, 3) := by decide +kernel
theorem dX2_told_155 : decode cX2_told 155 = .ok (.goto (-141), 3) := by decide +kernel
theorem dX2_told_158 : decode cX2_told 158 = .ok (.iload_n 1, 1) := by decide +kernel
theorem dX2_told_159 : decode cX2_told 159 = .ok (.ifCond .ne 10, 3) := by decide +kernel
theorem dX2_told_162 : decode cX2_told 162 = .ok (.aload_n 0, 1) := by decide +kernel
theorem dX2_told_163 : decode cX2_told 163 = .ok (.getfield 37, 3) := by decide +kernel
theorem dX2_told_166 : decode cX2_told 166 = .ok (.goto 41, 3) := by decide +kernel
theorem dX2_told_169 : decode cX2_told 169 = .ok (.iload_n 1, 1) := by decide +kernel
theorem dX2_told_170 : decode cX2_told 170 = .ok (.iconst 4, 1) := by decide +kernel
theorem dX2_told_171 : decode cX2_told 171 = .ok (.if_icmp .ne 10, 3) := by decide +kernel
theorem dX2_told_174 : decode cX2_told 174 = .ok (.aload_n 0, 1) := by decide +kernel
theorem dX2_told_175 : decode cX2_told 175 = .ok (.getfield 41, 3) := by decide +kernel
theorem dX2_told_178 : decode cX2_told 178 = .ok (.goto 29, 3) := by decide +kernel
theorem dX2_told_181 : decode cX2_told 181 = .ok (.iload_n 1, 1) := by decide +kernel
theorem dX2_told_182 : decode cX2_told 182 = .ok (.iconst 5, 1) := by decide +kernel
theorem dX2_told_183 : decode cX2_told 183 = .ok (.if_icmp .ne 10, 3) := by decide +kernel
theorem dX2_told_186 : decode cX2_told 186 = .ok (.aload_n 0, 1) := by decide +kernel
theorem dX2_told_187 : decode cX2_told 187 = .ok (.getfield 44, 3) := by decide +kernel
theorem dX2_told_190 : decode cX2_told 190 = .ok (.goto 17, 3) := by decide +kernel
theorem dX2_told_193 : decode cX2_told 193 = .ok (.iload_n 1, 1) := by decide +kernel
theorem dX2_told_194 : decode cX2_told 194 = .ok (.bipush 7, 2) := by decide +kernel
theorem dX2_told_196 : decode cX2_told 196 = .ok (.if_icmp .ne 10, 3) := by decide +kernel
theorem dX2_told_199 : decode cX2_told 199 = .ok (.aload_n 0, 1) := by decide +kernel
theorem dX2_told_200 : decode cX2_told 200 = .ok (.getfield 47, 3) := by decide +kernel
theorem dX2_told_203 : decode cX2_told 203 = .ok (.goto 4, 3) := by decide +kernel
theorem dX2_told_206 : decode cX2_told 206 = .ok (.iload_n 2, 1) := by decide +kernel
theorem dX2_told_207 : decode cX2_told 207 = .ok (.ireturn, 1) := by decide +kernel
set_option maxRecDepth 20000 in
theorem ggX2_isSame_X2_crest : GoodIn wsX2_isSame wsX2_crest := goodIn_r _ [12, 3, 4, 2, 116, 117, 118, 119, 120, 121, 122, 123, 124, 125, 126] (by decide +kernel) (by decide +kernel)
set_option maxRecDepth 20000 in
theorem gX2_isSame_X2_crest : GoodIn wsX2_isSame (wsV RX2 51 RX2 yX2_crest wsX2_crest) := goodIn_app (goodIn_of _ (by decide +kernel)) ggX2_isSame_X2_crest
set_option maxRecDepth 20000 in
theorem ggX2_isSame_X1_cell : GoodIn wsX2_isSame wsX1_cell := goodIn_ca (goodIn_r _ [17, 18, 19, 20, 16, 21, 22, 23, 24, 25, 26, 27, 28, 29, 30, 31, 32, 33, 34, 35, 36, 37, 38, 39, 40, 41, 42, 43, 44, 45, 46, 47, 48, 49, 127, 128, 129, 130, 131, 132, 133, 134, 135, 136, 137, 138, 139, 140, 141, 142, 143] (by decide +kernel) (by decide +kernel)) (goodIn_sub (fun _ h => List.mem_cons_of_mem _ (List.mem_append_right _ h)) (by decide +kernel))
set_option maxRecDepth 20000 in
theorem gX2_isSame_X1_cell : GoodIn wsX2_isSame (wsV RX2 61 RX1 yX1_cell wsX1_cell) := goodIn_app (goodIn_of _ (by decide +kernel)) ggX2_isSame_X1_cell
set_option maxRecDepth 20000 in
theorem ggX2_isSame_X1_count : GoodIn wsX2_isSame wsX1_count := goodIn_ca (goodIn_r _ [53, 18, 22, 23, 16, 24, 25, 26, 54, 55, 56, 30, 57, 58, 33, 34, 59, 60, 37, 61, 62, 63, 64, 65, 66, 67, 68, 69, 70, 71, 72, 73, 74, 75, 76, 77, 78, 79, 80, 81, 82, 83, 84, 85, 86, 87, 88, 89, 90, 91, 92, 93, 94, 127, 128, 129, 130, 131, 132, 133, 134, 135, 136, 137, 138, 139, 140, 141, 142, 143] (by decide +kernel) (by decide +kernel)) (goodIn_sub (fun _ h => List.mem_cons_of_mem _ (List.mem_append_right _ h)) (by decide +kernel))
set_option maxRecDepth 20000 in
theorem gX2_isSame_X1_count : GoodIn wsX2_isSame (wsV RX2 67 RX1 yX1_count wsX1_count) := goodIn_app (goodIn_of _ (by decide +kernel)) ggX2_isSame_X1_count
set_option maxRecDepth 20000 in
theorem ggX2_isSame_X2_told : GoodIn wsX2_isSame wsX2_told := goodIn_r _ [98, 99, 100, 3, 4, 7, 101, 102, 103, 104, 105, 106, 107, 11, 108, 116, 117, 118, 119, 120, 121, 122, 123, 124, 125, 126] (by decide +kernel) (by decide +kernel)
set_option maxRecDepth 20000 in
theorem gX2_isSame_X2_told : GoodIn wsX2_isSame (wsV RX2 71 RX2 yX2_told wsX2_told) := goodIn_app (goodIn_of _ (by decide +kernel)) ggX2_isSame_X2_told
set_option maxRecDepth 20000 in
theorem ggX2_isSame_X1_mean : GoodIn wsX2_isSame wsX1_mean := goodIn_r _ [112, 18, 113, 114, 67, 68, 30, 69, 33, 70, 71, 72, 73, 115, 63, 64, 65, 127, 128, 129, 130, 131, 132, 133, 134, 135, 136, 137, 138, 139, 140, 141, 142, 143] (by decide +kernel) (by decide +kernel)
set_option maxRecDepth 20000 in
theorem gX2_isSame_X1_mean : GoodIn wsX2_isSame (wsV RX2 74 RX1 yX1_mean wsX1_mean) := goodIn_app (goodIn_of _ (by decide +kernel)) ggX2_isSame_X1_mean
theorem dX2_isSame_0 : decode cX2_isSame 0 = .ok (.iconst 0, 1) := by decide +kernel
theorem dX2_isSame_1 : decode cX2_isSame 1 = .ok (.istore_n 2, 1) := by decide +kernel
theorem dX2_isSame_2 : decode cX2_isSame 2 = .ok (.iload_n 2, 1) := by decide +kernel
theorem dX2_isSame_3 : decode cX2_isSame 3 = .ok (.bipush 8, 2) := by decide +kernel
theorem dX2_isSame_5 : decode cX2_isSame 5 = .ok (.if_icmp .ge 160, 3) := by decide +kernel
theorem dX2_isSame_8 : decode cX2_isSame 8 = .ok (.iconst 0, 1) := by decide +kernel
theorem dX2_isSame_9 : decode cX2_isSame 9 = .ok (.istore_n 3, 1) := by decide +kernel
theorem dX2_isSame_10 : decode cX2_isSame 10 = .ok (.iload_n 3, 1) := by decide +kernel
theorem dX2_isSame_11 : decode cX2_isSame 11 = .ok (.bipush 8, 2) := by decide +kernel
theorem dX2_isSame_13 : decode cX2_isSame 13 = .ok (.if_icmp .ge 146, 3) := by decide +kernel
theorem dX2_isSame_16 : decode cX2_isSame 16 = .ok (.bipush 8, 2) := by decide +kernel
theorem dX2_isSame_18 : decode cX2_isSame 18 = .ok (.newarray .int, 2) := by decide +kernel
theorem dX2_isSame_20 : decode cX2_isSame 20 = .ok (.dup, 1) := by decide +kernel
theorem dX2_isSame_21 : decode cX2_isSame 21 = .ok (.iconst 0, 1) := by decide +kernel
theorem dX2_isSame_22 : decode cX2_isSame 22 = .ok (.aload_n 0, 1) := by decide +kernel
theorem dX2_isSame_23 : decode cX2_isSame 23 = .ok (.getfield 9, 3) := by decide +kernel
theorem dX2_isSame_26 : decode cX2_isSame 26 = .ok (.iload_n 2, 1) := by decide +kernel
theorem dX2_isSame_27 : decode cX2_isSame 27 = .ok (.aaload, 1) := by decide +kernel
theorem dX2_isSame_28 : decode cX2_isSame 28 = .ok (.iload_n 3, 1) := by decide +kernel
theorem dX2_isSame_29 : decode cX2_isSame 29 = .ok (.iaload, 1) := by decide +kernel
theorem dX2_isSame_30 : decode cX2_isSame 30 = .ok (.iastore, 1) := by decide +kernel
theorem dX2_isSame_31 : decode cX2_isSame 31 = .ok (.dup, 1) := by decide +kernel
theorem dX2_isSame_32 : decode cX2_isSame 32 = .ok (.iconst 1, 1) := by decide +kernel
theorem dX2_isSame_33 : decode cX2_isSame 33 = .ok (.aload_n 0, 1) := by decide +kernel
theorem dX2_isSame_34 : decode cX2_isSame 34 = .ok (.getfield 14, 3) := by decide +kernel
theorem dX2_isSame_37 : decode cX2_isSame 37 = .ok (.iload_n 2, 1) := by decide +kernel
theorem dX2_isSame_38 : decode cX2_isSame 38 = .ok (.aaload, 1) := by decide +kernel
theorem dX2_isSame_39 : decode cX2_isSame 39 = .ok (.iload_n 3, 1) := by decide +kernel
theorem dX2_isSame_40 : decode cX2_isSame 40 = .ok (.iaload, 1) := by decide +kernel
theorem dX2_isSame_41 : decode cX2_isSame 41 = .ok (.iastore, 1) := by decide +kernel
theorem dX2_isSame_42 : decode cX2_isSame 42 = .ok (.dup, 1) := by decide +kernel
theorem dX2_isSame_43 : decode cX2_isSame 43 = .ok (.iconst 2, 1) := by decide +kernel
theorem dX2_isSame_44 : decode cX2_isSame 44 = .ok (.aload_n 0, 1) := by decide +kernel
theorem dX2_isSame_45 : decode cX2_isSame 45 = .ok (.getfield 17, 3) := by decide +kernel
theorem dX2_isSame_48 : decode cX2_isSame 48 = .ok (.iload_n 2, 1) := by decide +kernel
theorem dX2_isSame_49 : decode cX2_isSame 49 = .ok (.aaload, 1) := by decide +kernel
theorem dX2_isSame_50 : decode cX2_isSame 50 = .ok (.iload_n 3, 1) := by decide +kernel
theorem dX2_isSame_51 : decode cX2_isSame 51 = .ok (.iaload, 1) := by decide +kernel
theorem dX2_isSame_52 : decode cX2_isSame 52 = .ok (.iastore, 1) := by decide +kernel
theorem dX2_isSame_53 : decode cX2_isSame 53 = .ok (.dup, 1) := by decide +kernel
theorem dX2_isSame_54 : decode cX2_isSame 54 = .ok (.iconst 3, 1) := by decide +kernel
theorem dX2_isSame_55 : decode cX2_isSame 55 = .ok (.aload_n 0, 1) := by decide +kernel
theorem dX2_isSame_56 : decode cX2_isSame 56 = .ok (.getfield 20, 3) := by decide +kernel
theorem dX2_isSame_59 : decode cX2_isSame 59 = .ok (.iload_n 2, 1) := by decide +kernel
theorem dX2_isSame_60 : decode cX2_isSame 60 = .ok (.aaload, 1) := by decide +kernel
theorem dX2_isSame_61 : decode cX2_isSame 61 = .ok (.iload_n 3, 1) := by decide +kernel
theorem dX2_isSame_62 : decode cX2_isSame 62 = .ok (.iaload, 1) := by decide +kernel
theorem dX2_isSame_63 : decode cX2_isSame 63 = .ok (.iastore, 1) := by decide +kernel
theorem dX2_isSame_64 : decode cX2_isSame 64 = .ok (.dup, 1) := by decide +kernel
theorem dX2_isSame_65 : decode cX2_isSame 65 = .ok (.iconst 4, 1) := by decide +kernel
theorem dX2_isSame_66 : decode cX2_isSame 66 = .ok (.aload_n 0, 1) := by decide +kernel
theorem dX2_isSame_67 : decode cX2_isSame 67 = .ok (.getfield 23, 3) := by decide +kernel
theorem dX2_isSame_70 : decode cX2_isSame 70 = .ok (.iload_n 2, 1) := by decide +kernel
theorem dX2_isSame_71 : decode cX2_isSame 71 = .ok (.aaload, 1) := by decide +kernel
theorem dX2_isSame_72 : decode cX2_isSame 72 = .ok (.iload_n 3, 1) := by decide +kernel
theorem dX2_isSame_73 : decode cX2_isSame 73 = .ok (.iaload, 1) := by decide +kernel
theorem dX2_isSame_74 : decode cX2_isSame 74 = .ok (.iastore, 1) := by decide +kernel
theorem dX2_isSame_75 : decode cX2_isSame 75 = .ok (.dup, 1) := by decide +kernel
theorem dX2_isSame_76 : decode cX2_isSame 76 = .ok (.iconst 5, 1) := by decide +kernel
theorem dX2_isSame_77 : decode cX2_isSame 77 = .ok (.aload_n 0, 1) := by decide +kernel
theorem dX2_isSame_78 : decode cX2_isSame 78 = .ok (.getfield 26, 3) := by decide +kernel
theorem dX2_isSame_81 : decode cX2_isSame 81 = .ok (.iload_n 2, 1) := by decide +kernel
theorem dX2_isSame_82 : decode cX2_isSame 82 = .ok (.aaload, 1) := by decide +kernel
theorem dX2_isSame_83 : decode cX2_isSame 83 = .ok (.iload_n 3, 1) := by decide +kernel
theorem dX2_isSame_84 : decode cX2_isSame 84 = .ok (.iaload, 1) := by decide +kernel
theorem dX2_isSame_85 : decode cX2_isSame 85 = .ok (.iastore, 1) := by decide +kernel
theorem dX2_isSame_86 : decode cX2_isSame 86 = .ok (.dup, 1) := by decide +kernel
theorem dX2_isSame_87 : decode cX2_isSame 87 = .ok (.bipush 6, 2) := by decide +kernel
theorem dX2_isSame_89 : decode cX2_isSame 89 = .ok (.aload_n 0, 1) := by decide +kernel
theorem dX2_isSame_90 : decode cX2_isSame 90 = .ok (.getfield 9, 3) := by decide +kernel
theorem dX2_isSame_93 : decode cX2_isSame 93 = .ok (.iload_n 2, 1) := by decide +kernel
theorem dX2_isSame_94 : decode cX2_isSame 94 = .ok (.aaload, 1) := by decide +kernel
theorem dX2_isSame_95 : decode cX2_isSame 95 = .ok (.iload_n 3, 1) := by decide +kernel
theorem dX2_isSame_96 : decode cX2_isSame 96 = .ok (.iaload, 1) := by decide +kernel
theorem dX2_isSame_97 : decode cX2_isSame 97 = .ok (.aload_n 0, 1) := by decide +kernel
theorem dX2_isSame_98 : decode cX2_isSame 98 = .ok (.getfield 14, 3) := by decide +kernel
theorem dX2_isSame_101 : decode cX2_isSame 101 = .ok (.iload_n 2, 1) := by decide +kernel
theorem dX2_isSame_102 : decode cX2_isSame 102 = .ok (.aaload, 1) := by decide +kernel
theorem dX2_isSame_103 : decode cX2_isSame 103 = .ok (.iload_n 3, 1) := by decide +kernel
theorem dX2_isSame_104 : decode cX2_isSame 104 = .ok (.iaload, 1) := by decide +kernel
theorem dX2_isSame_105 : decode cX2_isSame 105 = .ok (.iadd, 1) := by decide +kernel
theorem dX2_isSame_106 : decode cX2_isSame 106 = .ok (.iastore, 1) := by decide +kernel
theorem dX2_isSame_107 : decode cX2_isSame 107 = .ok (.dup, 1) := by decide +kernel
theorem dX2_isSame_108 : decode cX2_isSame 108 = .ok (.bipush 7, 2) := by decide +kernel
theorem dX2_isSame_110 : decode cX2_isSame 110 = .ok (.aload_n 0, 1) := by decide +kernel
theorem dX2_isSame_111 : decode cX2_isSame 111 = .ok (.iload_n 2, 1) := by decide +kernel
theorem dX2_isSame_112 : decode cX2_isSame 112 = .ok (.iload_n 3, 1) := by decide +kernel
theorem dX2_isSame_113 : decode cX2_isSame 113 = .ok (.invokevirtual 51, 3) := by decide +kernel
theorem dX2_isSame_116 : decode cX2_isSame 116 = .ok (.iastore, 1) := by decide +kernel
theorem dX2_isSame_117 : decode cX2_isSame 117 = .ok (.astore 4, 2) := by decide +kernel
theorem dX2_isSame_119 : decode cX2_isSame 119 = .ok (.iconst 0, 1) := by decide +kernel
theorem dX2_isSame_120 : decode cX2_isSame 120 = .ok (.istore 5, 2) := by decide +kernel
theorem dX2_isSame_122 : decode cX2_isSame 122 = .ok (.iload 5, 2) := by decide +kernel
theorem dX2_isSame_124 : decode cX2_isSame 124 = .ok (.bipush 8, 2) := by decide +kernel
theorem dX2_isSame_126 : decode cX2_isSame 126 = .ok (.if_icmp .ge 27, 3) := by decide +kernel
theorem dX2_isSame_129 : decode cX2_isSame 129 = .ok (.aload_n 1, 1) := by decide +kernel
theorem dX2_isSame_130 : decode cX2_isSame 130 = .ok (.iload_n 2, 1) := by decide +kernel
theorem dX2_isSame_131 : decode cX2_isSame 131 = .ok (.iload_n 3, 1) := by decide +kernel
theorem dX2_isSame_132 : decode cX2_isSame 132 = .ok (.iload 5, 2) := by decide +kernel
theorem dX2_isSame_134 : decode cX2_isSame 134 = .ok (.invokevirtual 61, 3) := by decide +kernel
theorem dX2_isSame_137 : decode cX2_isSame 137 = .ok (.aload 4, 2) := by decide +kernel
theorem dX2_isSame_139 : decode cX2_isSame 139 = .ok (.iload 5, 2) := by decide +kernel
theorem dX2_isSame_141 : decode cX2_isSame 141 = .ok (.iaload, 1) := by decide +kernel
theorem dX2_isSame_142 : decode cX2_isSame 142 = .ok (.if_icmp .eq 5, 3) := by decide +kernel
theorem dX2_isSame_145 : decode cX2_isSame 145 = .ok (.iconst 0, 1) := by decide +kernel
theorem dX2_isSame_146 : decode cX2_isSame 146 = .ok (.ireturn, 1) := by decide +kernel
theorem dX2_isSame_147 : decode cX2_isSame 147 = .ok (.iinc 5 1, 3) := by decide +kernel
theorem dX2_isSame_150 : decode cX2_isSame 150 = .ok (.goto (-28), 3) := by decide +kernel
theorem dX2_isSame_153 : decode cX2_isSame 153 = .ok (.iinc 3 1, 3) := by decide +kernel
theorem dX2_isSame_156 : decode cX2_isSame 156 = .ok (.goto (-146), 3) := by decide +kernel
theorem dX2_isSame_159 : decode cX2_isSame 159 = .ok (.iinc 2 1, 3) := by decide +kernel
theorem dX2_isSame_162 : decode cX2_isSame 162 = .ok (.goto (-160), 3) := by decide +kernel
theorem dX2_isSame_165 : decode cX2_isSame 165 = .ok (.iconst 0, 1) := by decide +kernel
theorem dX2_isSame_166 : decode cX2_isSame 166 = .ok (.istore_n 2, 1) := by decide +kernel
theorem dX2_isSame_167 : decode cX2_isSame 167 = .ok (.iload_n 2, 1) := by decide +kernel
theorem dX2_isSame_168 : decode cX2_isSame 168 = .ok (.bipush 9, 2) := by decide +kernel
theorem dX2_isSame_170 : decode cX2_isSame 170 = .ok (.if_icmp .ge 24, 3) := by decide +kernel
theorem dX2_isSame_173 : decode cX2_isSame 173 = .ok (.aload_n 1, 1) := by decide +kernel
theorem dX2_isSame_174 : decode cX2_isSame 174 = .ok (.iload_n 2, 1) := by decide +kernel
theorem dX2_isSame_175 : decode cX2_isSame 175 = .ok (.invokevirtual 67, 3) := by decide +kernel
theorem dX2_isSame_178 : decode cX2_isSame 178 = .ok (.aload_n 0, 1) := by decide +kernel
theorem dX2_isSame_179 : decode cX2_isSame 179 = .ok (.iload_n 2, 1) := by decide +kernel
theorem dX2_isSame_180 : decode cX2_isSame 180 = .ok (.invokevirtual 71, 3) := by decide +kernel
theorem dX2_isSame_183 : decode cX2_isSame 183 = .ok (.if_icmp .eq 5, 3) := by decide +kernel
theorem dX2_isSame_186 : decode cX2_isSame 186 = .ok (.iconst 0, 1) := by decide +kernel
theorem dX2_isSame_187 : decode cX2_isSame 187 = .ok (.ireturn, 1) := by decide +kernel
theorem dX2_isSame_188 : decode cX2_isSame 188 = .ok (.iinc 2 1, 3) := by decide +kernel
theorem dX2_isSame_191 : decode cX2_isSame 191 = .ok (.goto (-24), 3) := by decide +kernel
theorem dX2_isSame_194 : decode cX2_isSame 194 = .ok (.aload_n 1, 1) := by decide +kernel
theorem dX2_isSame_195 : decode cX2_isSame 195 = .ok (.invokevirtual 74, 3) := by decide +kernel
theorem dX2_isSame_198 : decode cX2_isSame 198 = .ok (.aload_n 0, 1) := by decide +kernel
theorem dX2_isSame_199 : decode cX2_isSame 199 = .ok (.iconst 2, 1) := by decide +kernel
theorem dX2_isSame_200 : decode cX2_isSame 200 = .ok (.invokevirtual 71, 3) := by decide +kernel
theorem dX2_isSame_203 : decode cX2_isSame 203 = .ok (.ifCond .ne 7, 3) := by decide +kernel
theorem dX2_isSame_206 : decode cX2_isSame 206 = .ok (.dconst 0, 1) := by decide +kernel
theorem dX2_isSame_207 : decode cX2_isSame 207 = .ok (.goto 16, 3) := by decide +kernel
theorem dX2_isSame_210 : decode cX2_isSame 210 = .ok (.aload_n 0, 1) := by decide +kernel
theorem dX2_isSame_211 : decode cX2_isSame 211 = .ok (.iconst 1, 1) := by decide +kernel
theorem dX2_isSame_212 : decode cX2_isSame 212 = .ok (.invokevirtual 71, 3) := by decide +kernel
theorem dX2_isSame_215 : decode cX2_isSame 215 = .ok (.i2d, 1) := by decide +kernel
theorem dX2_isSame_216 : decode cX2_isSame 216 = .ok (.aload_n 0, 1) := by decide +kernel
theorem dX2_isSame_217 : decode cX2_isSame 217 = .ok (.iconst 2, 1) := by decide +kernel
theorem dX2_isSame_218 : decode cX2_isSame 218 = .ok (.invokevirtual 71, 3) := by decide +kernel
theorem dX2_isSame_221 : decode cX2_isSame 221 = .ok (.i2d, 1) := by decide +kernel
theorem dX2_isSame_222 : decode cX2_isSame 222 = .ok (.ddiv, 1) := by decide +kernel
theorem dX2_isSame_223 : decode cX2_isSame 223 = .ok (.dcmp .l, 1) := by decide +kernel
theorem dX2_isSame_224 : decode cX2_isSame 224 = .ok (.ifCond .ne 7, 3) := by decide +kernel
theorem dX2_isSame_227 : decode cX2_isSame 227 = .ok (.iconst 1, 1) := by decide +kernel
theorem dX2_isSame_228 : decode cX2_isSame 228 = .ok (.goto 4, 3) := by decide +kernel
theorem dX2_isSame_231 : decode cX2_isSame 231 = .ok (.iconst 0, 1) := by decide +kernel
theorem dX2_isSame_232 : decode cX2_isSame 232 = .ok (.ireturn, 1) := by decide +kernel
end
section
/-- what the tables say of rows of int rows, and of the clone of an int row -/
def ct_Y (U : State) : Prop := (Cond.arrayOver (.array .int)).before #[] U = true ∧ va_Nw (.castable "[I" "java/lang/Cloneable") U
theorem ct_AOA.moved {u U : State} (hvm : u.vm.Alike U.vm) (h : (Cond.arrayOver (.array .int)).before #[] u = true) : (Cond.arrayOver (.array .int)).before #[] U = true := by
  obtain ⟨comp, c, k, h1, h2, h3, h4, h5⟩ := arrayOverA_spec h
  obtain ⟨k', hk', he⟩ := hvm.2.2 _ _ h3
  have hi : (U.vm.classes.findIdx? fun (x : Class) => match x.kind with | .array component _ => component == comp | _ => false) = some c := by
    rw [hvm.findIdx?_eq _ (fun _ => rfl)]
    exact h2
  have hkind : k'.kind = .array comp (.array .int) := by rw [he]; exact h4
  have f1 : U.vm.findClass (FieldType.array .int).toString = some comp := by rw [hvm.findClass]; exact h1
  have f2 : U.vm.findClass ("[" ++ (FieldType.array .int).toString) = some c := by rw [hvm.findClass]; exact h5
  unfold Cond.before Cond.holds
  simp only [Cond.value]
  rw [f1, Option.bind_some]
  refine (congrArg (fun o : Option Nat => (o.bind (fun c => (U.vm.classes[c]?).map fun (k : Class) => match k.kind with | .array _ ty => decide (ty = FieldType.array .int) && decide (U.vm.findClass ("[" ++ (FieldType.array .int).toString) = some c) | _ => false) == some true)) hi).trans ?_
  simp [hk', hkind, f2]
theorem ct_AOA.use {A : Array Value} {U : State} (h : (Cond.arrayOver (.array .int)).before #[] U = true) : (Cond.arrayOver (.array .int)).before A U = true := h
theorem ct_Y.warm {s U : State} (h : ct_Y s) (hW : s.WarmedH U.vm) : ct_Y U := ⟨ct_AOA.moved hW.alike h.1, h.2.warmC hW⟩
theorem ct_Y.same {s U : State} (hv : U.vm = s.vm) (h : ct_Y s) : ct_Y U := ⟨ct_AOA.moved (by rw [hv]; exact Vm.Alike.refl _) h.1, va_Nw.same rfl hv.symm h.2⟩
/-- the class of a row of int rows, as it was found when one was made -/
def ct_J (cJ cI : ClassId) (s : State) : Prop := ∃ kA : Class, s.vm.classes[cJ]? = some kA ∧ kA.kind = .array cI (.array .int)
abbrev rf5 (f : Nat → Option Nat) : (Nat → Int32) ⊕ (Nat → Int64) ⊕ (Nat → UInt32) ⊕ (Nat → UInt64) ⊕ (Nat → Option Nat) := .inr (.inr (.inr (.inr f)))
section CTY
variable {p : Program} {l : Launch} {e : Env} {R : Room} {s : State} {m : MethodId} {args : Array Value} {below : List Frame} {meth : Method} {c : Code} {H H0 : Heap} {locs : List Loc} {cells slots : Nat} {Q : State → Prop}
variable {pc : Nat} {ls : Array Slot} {rest : List Value} {cc : ByteArray} {D : va_G} {cl : List vw_C} {tys : List (ClassId × FieldType)} {A : Nat → Prop} {ws : va_W} {a : Nat} {cI cJ : ClassId}
theorem ct_anewA (hexec : p.tables.exec = Jvm.exec) (hb : c.code = cc) {own : String} {index : Nat} (hown : s.vm.findClass own = some m.cls) (hclink : (Cond.classLink own index "[I").before args s = true) (hY : ct_Y s) (t0 t1 : Nat) (ht0 : tys[t0]? = some (cI, .int)) (ht1 : tys[t1]? = some (cJ, .array .int)) (hK : va_K D cl tys s) (hP : va_P D cl ws H) (hD : va_D A ws) (hS : va_S A H0 H locs) (hA : ∀ q, H0.size ≤ q → A q)
    {n : Int32} (N : Nat) (hn : n = nI N) (hN : N < 1000) {cells1 slots1 : Nat} (hc9 : cells + 1 = cells1) (hs9 : slots + N = slots1) (hcells : cells1 ≤ R.cells) (hslots : slots1 ≤ R.slots) (hdg : decode cc pc = .ok (.anewarray index, 3))
    (kk : ∀ (q : Nat) (H1 : Heap), ct_J cJ cI s → va_P D cl (ws ++ [(q, .inl (cJ, N, rf5 (fun _ => none)))]) H1 → va_D A (ws ++ [(q, .inl (cJ, N, rf5 (fun _ => none)))]) → va_S A H0 H1 locs →
      W p l e R s m args below meth c H1 locs cells1 slots1 Q (F0 m (pc + 3) ls (.ref q :: rest))) : W p l e R s m args below meth c H locs cells slots Q (F0 m pc ls (.int n :: rest)) := by
  subst hn
  subst hc9
  subst hs9
  have hcl : (nI N).toNatClampNeg = N := nI_clamp (by omega)
  have e1 : (FieldType.array .int).toString = "[I" := by decide +kernel
  refine W.anewA (t := .int) hexec hb hown (by rw [e1]; exact hclink) (ct_AOA.use hY.1) rfl hdg rfl (nI_pos (by omega)) (by rw [hcl]; omega) hcells (by rw [hcl]; exact hslots) fun cA kA comp f1 f2 f3 f4 => ?_
  rw [hcl]
  have a1 : s.vm.findClass ("[" ++ (FieldType.array .int).toString) = some cJ := (hK.2 t1 _ ht1).2
  obtain rfl : cA = cJ := Option.some.inj (f1.symm.trans a1)
  have a2 : s.vm.findClass "[I" = some cI := va_nm_int (hK.2 t0 _ ht0).2
  rw [e1] at f4
  obtain rfl : comp = cI := Option.some.inj (f4.symm.trans a2)
  generalize hH1 : H.push ({ cls := cA, slots := Array.replicate N .null, vm := .none } : Cell) = H1
  have z1 : H1.size = H.size + 1 := by rw [← hH1, Array.size_push]
  have e1 : H1[H.size]? = some (arrV cA N (fun _ => .null)) := by rw [← hH1, Array.getElem?_push_size, ← arrV_new]
  have o1 : ∀ q : Nat, q < H.size → H1[q]? = H[q]? := fun q hq => by rw [← hH1, Array.getElem?_push, if_neg (Nat.ne_of_lt hq)]
  have hk : ∀ (k : Nat) (x : Nat × va_E), ws[k]? = some x → H1[x.1]? = H[x.1]? := fun k x hx => o1 x.1 ((hP k x hx).lt)
  refine kk H.size H1 ⟨kA, f2, f3⟩ ((hP.kept hk).app (fun k x hx => ?_)) (hD.push hP rfl (hA _ hS.1)) ⟨Nat.le_trans hS.1 (by omega), fun x h1 h2 => (o1 x (Nat.lt_of_lt_of_le h1 hS.1)).trans (hS.2.1 x h1 h2), hS.2.2⟩
  have hz : k < 1 := (List.getElem?_eq_some_iff.mp hx).1
  rw [show k = 0 by omega] at hx
  cases hx
  show H1[H.size]? = some (vp_cell _ _)
  rw [vp_cell_q]
  exact e1
theorem ct_aasta (hexec : p.tables.exec = Jvm.exec) (hb : c.code = cc) (hJ : ct_J cJ cI s) (t0 : Nat) (ht0 : tys[t0]? = some (cI, .int)) (hK : va_K D cl tys s) (hP : va_P D cl ws H) (hD : va_D A ws) (hS : va_S A H0 H locs) (q0 qk : Nat) {n N v : Nat} {f : Nat → Option Nat} {g : Nat → Int32} (ha : ws[q0]? = some (a, .inl (cJ, n, rf5 f))) (hv : ws[qk]? = some (v, .inl (cI, N, .inl g))) (k : Nat) {i : Int32} (hi : i = nI k) (hk : k < n) (hn : n < 2 ^ 31) {ws1 : va_W} (hw : ws.set q0 (a, .inl (cJ, n, rf5 (va_up f k (some v)))) = ws1) (hdg : decode cc pc = .ok (.aastore, 1))
    (kk : ∀ (H1 : Heap) (locs1 : List Loc), va_P D cl ws1 H1 → va_D A ws1 → va_S A H0 H1 locs1 → W p l e R s m args below meth c H1 locs1 cells slots Q (F0 m (pc + 1) ls rest)) : W p l e R s m args below meth c H locs cells slots Q (F0 m pc ls (.ref v :: .int i :: .ref a :: rest)) := by
  subst hi
  subst hw
  have hcl : (nI k).toNatClampNeg = k := nI_clamp (by omega)
  obtain ⟨kA, k1, k2⟩ := hJ
  obtain ⟨-, kI, k3, -⟩ := (hK.2 t0 _ ht0).1 N (fun j => .int (g j))
  refine W.aast (comp := cI) (t := .array .int) hexec hb (hP q0 _ ha) (fun q h => by cases h) (fun h => by cases h) k1 k2 rfl k3 ⟨nI_pos (by omega), by show _ < (arrV _ _ _).slots.size; rw [arrV_size, hcl]; exact hk⟩ (hP qk _ hv) (fun q h => by cases h) k3 (va_asg _ _) rfl rfl hdg fun H1 e z oq => ?_
  refine kk H1 _ (hP.set hD ha ?_ oq) (hD.set ha) (hS.put z oq (hD.2 q0 _ ha))
  show H1[a]? = some (vp_cell _ _)
  rw [e, hcl]
  rw [vp_cell_q, vp_cell_q, arrV_store]
  congr 2
  funext q
  by_cases hq : q = k
  · subst hq
    simp [updV, va_up, va_rf]
  · simp [updV, va_up, hq]
theorem ct_aalda (hexec : p.tables.exec = Jvm.exec) (hb : c.code = cc) (hK : va_K D cl tys s) (hP : va_P D cl ws H) (q0 t1 : Nat) {n : Nat} {f : Nat → Option Nat} (ha : ws[q0]? = some (a, .inl (cJ, n, rf5 f))) (ht1 : tys[t1]? = some (cJ, .array .int)) (k : Nat) {i : Int32} (hi : i = nI k) (hk : k < n) (hn : n < 2 ^ 31) {x : Nat} (hx : f k = some x) (hdg : decode cc pc = .ok (.aaload, 1))
    (kk : W p l e R s m args below meth c H locs cells slots Q (F0 m (pc + 1) ls (.ref x :: rest))) : W p l e R s m args below meth c H locs cells slots Q (F0 m pc ls (.int i :: .ref a :: rest)) := by
  subst hi
  have hcl : (nI k).toNatClampNeg = k := nI_clamp (by omega)
  have e : va_rf (f k) = .ref x := by rw [hx]; rfl
  refine W.aald (v := .ref x) (ty := .array .int) hexec hb (hP q0 _ ha) ((hK.2 t1 _ ht1).1 n (fun j => va_rf (f j))) rfl (fun q => by cases q) ?_ ?_ rfl rfl hdg kk
  · show ¬ (nI k < 0 ∨ (arrV cJ n (fun j => va_rf (f j))).slots.size ≤ (nI k).toNatClampNeg)
    rw [arrV_size, hcl]
    exact fun h => h.elim (nI_pos (by omega)) (fun h => absurd h (by omega))
  · show (arrV _ _ _).slots[_]? = _
    rw [hcl, arrV_read _ _ hk, e]
end CTY
def cy_Pc (D : va_G) (As : List Value) (wc : va_W) (tys : List (ClassId × FieldType)) (sz : Nat) : Array Value → State → Prop := va_Pc As (fun U => U.heap.size = sz ∧ va_P D vwCl wc U.heap ∧ va_K D vwCl tys U ∧ va_D (fun _ => True) wc ∧ ct_Y U)
theorem cy_frameblind {D : va_G} {As : List Value} {wc : va_W} {tys : List (ClassId × FieldType)} {sz : Nat} : FrameBlind (cy_Pc D As wc tys sz) := by
  intro a U g mk q
  obtain ⟨q0, q1, qP, qK, qD, qY⟩ := q
  exact ⟨q0, q1, qP, va_K.moved (u := U) (U := U.calling g mk a) (Vm.Alike.refl U.vm) qK, qD, ct_Y.same (s := U) rfl qY⟩
abbrev ct_Qr {S : Type} (D : va_G) (tys : List (ClassId × FieldType)) (post : S → Prop) (wo : S → Nat → va_W) (A : Nat → Prop) : Array Value → State → Outcome → State → Prop := va_Qr post (fun u a t => va_P D vwCl (wo u a) t.heap ∧ va_K D vwCl tys t ∧ va_D A (wo u a)) A
def cy_i {S : Type} (l : Launch) (D : va_G) (y : MethodName) (ws : List Cond) (rm : Room) (As : List Value) (wc : va_W) (tys : List (ClassId × FieldType)) (post : Int32 → S → Prop) (wo : S → va_W) : Prop := ∀ sz : Nat, Met l y ws rm (cy_Pc D As wc tys sz) (ct_Qi D tys post wo (va_A wc sz)) rm.cells rm.slots (va_A wc sz)
def cy_Bi {S : Type} (l : Launch) (D : va_G) (y : MethodName) (ws : List Cond) (rm : Room) (cc : ByteArray) (maxL : Nat) (As : List Value) (wc : va_W) (tys : List (ClassId × FieldType)) (post : Int32 → S → Prop) (wo : S → va_W) : Prop :=
  ∀ (p : Program) (e : Env) (s : State) (m : MethodId) (args : Array Value) (below : List Frame) (meth : Method) (c : Code) (A : Nat → Prop) (Q : State → Prop), p.tables.exec = Jvm.exec → c.code = cc → c.maxLocals = maxL → s.vm.findClass y.cls = some m.cls → (∀ w ∈ ws, w.before args s = true) → (∀ q : Nat, s.heap.size ≤ q → A q) →
    va_K D vwCl tys s → ct_Y s → ∀ (H : Heap) (locs : List Loc), va_P D vwCl wc H → va_D A wc → va_S A s.heap H locs →
    (∀ (v : Int32) (u : S) (H : Heap) (locs : List Loc) (cells slots pc : Nat) (ls : Array Slot), decode cc pc = .ok (.ireturn, 1) → post v u → va_P D vwCl (wo u) H → va_D A (wo u) → va_S A s.heap H locs → cells ≤ rm.cells → slots ≤ rm.slots → W p l e rm s m args below meth c H locs cells slots Q (F0 m pc ls [.int v])) →
    ∀ ls : Array Slot, lv_has ls maxL (lv_args 0 As) → W p l e rm s m args below meth c H locs 0 0 Q (F0 m 0 ls [])
theorem cy_ofi {S : Type} {l : Launch} {D : va_G} {y : MethodName} {ws ws' : List Cond} {rm : Room} {cc : ByteArray} {maxL : Nat} {As : List Value} {wc : va_W} {tys : List (ClassId × FieldType)} {post : Int32 → S → Prop} {wo : S → va_W}
    (hy : plainName y.cls = true) (hw : ws = Cond.code y cc maxL (some .int) :: ws') (hln : (lg_sl As).length ≤ maxL) (body : cy_Bi l D y ws rm cc maxL As wc tys post wo) : cy_i l D y ws rm As wc tys post wo := by
  intro sz
  refine Met.ofW (cc := cc) (maxL := maxL) (ret := (some .int)) hy hw ?_
  intro p e s m args below meth c s₁ B hml hv
  obtain ⟨rfl, hsz, hP, hK, hD0, hY⟩ := hv
  subst hsz
  have hD := hD0.self (sz := s.heap.size)
  have hl := lv_entry As (n := maxL) hln
  rw [lg_entry_eq]
  have hx := B.exec
  have hb := B.bytes
  have hr := B.returns
  have hlocks := B.notSynchronized
  exact body p e s m As.toArray below meth c (va_A wc s.heap.size) _ hx hb hml (findClass_of_methodNamed B.named) (atoms_spec (ws := ws) B.pre) (fun q h => Or.inr h) hK hY s.heap [] hP hD va_S.rf
    (fun v u H locs cells slots pc ls hdg hq hP hD hS hc hs => W.widen hc hs (W.iret (v := v) hx hb hr (fun t ht hW => ⟨⟨v, u, rfl, hq, by rw [ht]; exact hP, va_K.moved hW.alike hK, hD⟩, hS.F ht⟩) hS.2.2 hdg hlocks)) _ hl
def cy_v {S : Type} (l : Launch) (D : va_G) (y : MethodName) (ws : List Cond) (rm : Room) (As : List Value) (wc : va_W) (tys : List (ClassId × FieldType)) (post : S → Prop) (wo : S → va_W) : Prop := ∀ sz : Nat, Met l y ws rm (cy_Pc D As wc tys sz) (ct_Qv D tys post wo (va_A wc sz)) rm.cells rm.slots (va_A wc sz)
def cy_Bv {S : Type} (l : Launch) (D : va_G) (y : MethodName) (ws : List Cond) (rm : Room) (cc : ByteArray) (maxL : Nat) (As : List Value) (wc : va_W) (tys : List (ClassId × FieldType)) (post : S → Prop) (wo : S → va_W) : Prop :=
  ∀ (p : Program) (e : Env) (s : State) (m : MethodId) (args : Array Value) (below : List Frame) (meth : Method) (c : Code) (A : Nat → Prop) (Q : State → Prop), p.tables.exec = Jvm.exec → c.code = cc → c.maxLocals = maxL → s.vm.findClass y.cls = some m.cls → (∀ w ∈ ws, w.before args s = true) → (∀ q : Nat, s.heap.size ≤ q → A q) →
    va_K D vwCl tys s → ct_Y s → ∀ (H : Heap) (locs : List Loc), va_P D vwCl wc H → va_D A wc → va_S A s.heap H locs →
    (∀ (u : S) (H : Heap) (locs : List Loc) (cells slots pc : Nat) (ls : Array Slot), decode cc pc = .ok (.return_, 1) → post u → va_P D vwCl (wo u) H → va_D A (wo u) → va_S A s.heap H locs → cells ≤ rm.cells → slots ≤ rm.slots → W p l e rm s m args below meth c H locs cells slots Q (F0 m pc ls [])) →
    ∀ ls : Array Slot, lv_has ls maxL (lv_args 0 As) → W p l e rm s m args below meth c H locs 0 0 Q (F0 m 0 ls [])
theorem cy_ofv {S : Type} {l : Launch} {D : va_G} {y : MethodName} {ws ws' : List Cond} {rm : Room} {cc : ByteArray} {maxL : Nat} {As : List Value} {wc : va_W} {tys : List (ClassId × FieldType)} {post : S → Prop} {wo : S → va_W}
    (hy : plainName y.cls = true) (hw : ws = Cond.code y cc maxL none :: ws') (hln : (lg_sl As).length ≤ maxL) (body : cy_Bv l D y ws rm cc maxL As wc tys post wo) : cy_v l D y ws rm As wc tys post wo := by
  intro sz
  refine Met.ofW (cc := cc) (maxL := maxL) (ret := none) hy hw ?_
  intro p e s m args below meth c s₁ B hml hv
  obtain ⟨rfl, hsz, hP, hK, hD0, hY⟩ := hv
  subst hsz
  have hD := hD0.self (sz := s.heap.size)
  have hl := lv_entry As (n := maxL) hln
  rw [lg_entry_eq]
  have hx := B.exec
  have hb := B.bytes
  have hr := B.returns
  have hlocks := B.notSynchronized
  exact body p e s m As.toArray below meth c (va_A wc s.heap.size) _ hx hb hml (findClass_of_methodNamed B.named) (atoms_spec (ws := ws) B.pre) (fun q h => Or.inr h) hK hY s.heap [] hP hD va_S.rf
    (fun u H locs cells slots pc ls hdg hq hP hD hS hc hs => W.widen hc hs (W.vret hx hb hr (fun t ht hW => ⟨⟨u, rfl, hq, by rw [ht]; exact hP, va_K.moved hW.alike hK, hD⟩, hS.F ht⟩) hS.2.2 hdg hlocks)) _ hl
def cy_r {S : Type} (l : Launch) (D : va_G) (y : MethodName) (ws : List Cond) (rm : Room) (As : List Value) (wc : va_W) (tys : List (ClassId × FieldType)) (post : S → Prop) (wo : S → Nat → va_W) : Prop := ∀ sz : Nat, Met l y ws rm (cy_Pc D As wc tys sz) (ct_Qr D tys post wo (va_A wc sz)) rm.cells rm.slots (va_A wc sz)
def cy_Br {S : Type} (l : Launch) (D : va_G) (y : MethodName) (ws : List Cond) (rm : Room) (cc : ByteArray) (maxL : Nat) (As : List Value) (wc : va_W) (tys : List (ClassId × FieldType)) (post : S → Prop) (wo : S → Nat → va_W) : Prop :=
  ∀ (p : Program) (e : Env) (s : State) (m : MethodId) (args : Array Value) (below : List Frame) (meth : Method) (c : Code) (A : Nat → Prop) (Q : State → Prop), p.tables.exec = Jvm.exec → c.code = cc → c.maxLocals = maxL → s.vm.findClass y.cls = some m.cls → (∀ w ∈ ws, w.before args s = true) → (∀ q : Nat, s.heap.size ≤ q → A q) →
    va_K D vwCl tys s → ct_Y s → ∀ (H : Heap) (locs : List Loc), va_P D vwCl wc H → va_D A wc → va_S A s.heap H locs →
    (∀ (v : Nat) (u : S) (H : Heap) (locs : List Loc) (cells slots pc : Nat) (ls : Array Slot), decode cc pc = .ok (.areturn, 1) → post u → va_P D vwCl (wo u v) H → va_D A (wo u v) → va_S A s.heap H locs → cells ≤ rm.cells → slots ≤ rm.slots → W p l e rm s m args below meth c H locs cells slots Q (F0 m pc ls [.ref v])) →
    ∀ ls : Array Slot, lv_has ls maxL (lv_args 0 As) → W p l e rm s m args below meth c H locs 0 0 Q (F0 m 0 ls [])
theorem cy_ofr {S : Type} {l : Launch} {D : va_G} {y : MethodName} {ws ws' : List Cond} {rm : Room} {cc : ByteArray} {maxL : Nat} {As : List Value} {wc : va_W} {tys : List (ClassId × FieldType)} {post : S → Prop} {wo : S → Nat → va_W}
    (hy : plainName y.cls = true) (hw : ws = Cond.code y cc maxL (some (.array (.array .int))) :: ws') (hln : (lg_sl As).length ≤ maxL) (body : cy_Br l D y ws rm cc maxL As wc tys post wo) : cy_r l D y ws rm As wc tys post wo := by
  intro sz
  refine Met.ofW (cc := cc) (maxL := maxL) (ret := (some (.array (.array .int)))) hy hw ?_
  intro p e s m args below meth c s₁ B hml hv
  obtain ⟨rfl, hsz, hP, hK, hD0, hY⟩ := hv
  subst hsz
  have hD := hD0.self (sz := s.heap.size)
  have hl := lv_entry As (n := maxL) hln
  rw [lg_entry_eq]
  have hx := B.exec
  have hb := B.bytes
  have hr := B.returns
  have hlocks := B.notSynchronized
  exact body p e s m As.toArray below meth c (va_A wc s.heap.size) _ hx hb hml (findClass_of_methodNamed B.named) (atoms_spec (ws := ws) B.pre) (fun q h => Or.inr h) hK hY s.heap [] hP hD va_S.rf
    (fun v u H locs cells slots pc ls hdg hq hP hD hS hc hs => W.widen hc hs (W.aret (v := .ref v) (rt := .array (.array .int)) hx hb hr (Or.inr ⟨_, rfl⟩) (Or.inr ⟨_, rfl⟩) (fun t ht hW => ⟨⟨u, v, rfl, hq, by rw [ht]; exact hP, va_K.moved hW.alike hK, hD⟩, hS.F ht⟩) hS.2.2 hdg hlocks)) _ hl
section CYC
variable {p : Program} {l : Launch} {e : Env} {R : Room} {s : State} {m : MethodId} {args : Array Value} {below : List Frame} {meth : Method} {c : Code} {H : Heap} {locs : List Loc} {cells slots : Nat} {Q : State → Prop}
variable {pc : Nat} {ls : Array Slot} {cc : ByteArray} {D : va_G} {tysW tys : List (ClassId × FieldType)} {A : Nat → Prop} {S : Type} {y : MethodName} {bytes : ByteArray} {maxL nL n index : Nat} {ret : Option FieldType} {wsy : List Cond} {rm : Room} {Ts : List Cond} {own C : String} {b : Addr} {As rest st : List Value} {W0 wc wr : va_W}
theorem cy_pre (hK : va_K D vwCl tysW s) (hP : va_P D vwCl W0 H) (hD : va_D A W0) (hY : ct_Y s) {isC isR : List Nat} (hcut : ct_Cut W0 wc wr isC isR) (ist : List Nat) (hty : ist.filterMap (fun i => tysW[i]?) = tys) {Bs : List Value} : PreS s H (cy_Pc D Bs wc tys H.size) Bs :=
  ⟨cy_frameblind, fun U hU hW => ⟨rfl, by rw [hU], by rw [hU]; exact hP.sub isC (ct_mapfm hcut.1), va_K.moved hW.alike (hK.sub ist hty), (hD.sub isC hcut.2.2.1 hcut.1).weaken (fun _ _ _ _ => trivial), hY.warm hW⟩⟩
theorem cy_Vi {wo : S → va_W} {W1 : S → va_W} {post : Int32 → S → Prop} (F : CallFix p m c cc nL s args Ts own) (hC : cy_i l D y wsy rm (.ref b :: As) wc tys post wo) (cw : CallW R s args own C index y bytes maxL ret wsy rm rm.cells rm.slots n) (hK : va_K D vwCl tysW s) (hP : va_P D vwCl W0 H) (hD : va_D A W0) (hS : va_S A s.heap H locs) (hA : ∀ q : Nat, s.heap.size ≤ q → A q) (hY : ct_Y s)
    (isC isR : List Nat) (hcut : ct_Cut W0 wc wr isC isR) (perm : List Nat) (hnp : va_nd perm = true) (hperm : ∀ u : S, perm.map (fun i => (wr ++ wo u)[i]?) = (W1 u).map some) (ist : List Nat) (hty : ist.filterMap (fun i => tysW[i]?) = tys)
    (hrecv : ∃ cell : Cell, H[b]? = some cell ∧ cell.vm.isStatics = false ∧ s.vm.findClass C = some cell.cls) (hn : As.length = n) (hsize : ls.size = nL) (hst : st = As.reverse ++ .ref b :: rest) (hroom : (rest.map fun v => v.category).sum ≤ 8) {cells1 slots1 : Nat} (hc9 : cells + rm.cells = cells1) (hs9 : slots + rm.slots = slots1) (hf : cells1 ≤ R.cells ∧ slots1 ≤ R.slots) (hdg : decode cc pc = .ok (.invokevirtual index, 3))
    (kk : ∀ (r : Int32) (u : S) (H1 : Heap) (locs1 : List Loc), post r u → va_P D vwCl (W1 u) H1 → va_D A (W1 u) → va_S A s.heap H1 locs1 → W p l e R s m args below meth c H1 locs1 cells1 slots1 Q (F0 m (pc + 3) ls (.int r :: rest))) :
    W p l e R s m args below meth c H locs cells slots Q (F0 m pc ls st) := by
  subst hst
  subst hc9
  subst hs9
  have hp := cy_pre (Bs := .ref b :: As) hK hP hD hY hcut ist hty
  refine va_calli (va_runV (As := As) (rest := rest) F (hC H.size) cw ⟨hp.1, hrecv, hp.2⟩ rfl hn hsize rfl (lv_room hroom) hdg hf) hS (fun q _ h => va_free hD hS hA isC hcut.1 q h) (va_free hD hS hA isC hcut.1) (fun r u t H1 locs1 ht hvm hw hB hz1 hk1 hS1 => ?_)
  obtain ⟨a1, a2⟩ := ct_back hP hD hS hA hcut perm hnp (hperm u) ht hk1 hB
  exact kk r u H1 locs1 hw a1 a2 hS1
theorem cy_Vv {wo : S → va_W} {W1 : S → va_W} {post : S → Prop} (F : CallFix p m c cc nL s args Ts own) (hC : cy_v l D y wsy rm (.ref b :: As) wc tys post wo) (cw : CallW R s args own C index y bytes maxL ret wsy rm rm.cells rm.slots n) (hK : va_K D vwCl tysW s) (hP : va_P D vwCl W0 H) (hD : va_D A W0) (hS : va_S A s.heap H locs) (hA : ∀ q : Nat, s.heap.size ≤ q → A q) (hY : ct_Y s)
    (isC isR : List Nat) (hcut : ct_Cut W0 wc wr isC isR) (perm : List Nat) (hnp : va_nd perm = true) (hperm : ∀ u : S, perm.map (fun i => (wr ++ wo u)[i]?) = (W1 u).map some) (ist : List Nat) (hty : ist.filterMap (fun i => tysW[i]?) = tys)
    (hrecv : ∃ cell : Cell, H[b]? = some cell ∧ cell.vm.isStatics = false ∧ s.vm.findClass C = some cell.cls) (hn : As.length = n) (hsize : ls.size = nL) (hst : st = As.reverse ++ .ref b :: rest) (hroom : (rest.map fun v => v.category).sum ≤ 8) {cells1 slots1 : Nat} (hc9 : cells + rm.cells = cells1) (hs9 : slots + rm.slots = slots1) (hf : cells1 ≤ R.cells ∧ slots1 ≤ R.slots) (hdg : decode cc pc = .ok (.invokevirtual index, 3))
    (kk : ∀ (u : S) (H1 : Heap) (locs1 : List Loc), post u → va_P D vwCl (W1 u) H1 → va_D A (W1 u) → va_S A s.heap H1 locs1 → W p l e R s m args below meth c H1 locs1 cells1 slots1 Q (F0 m (pc + 3) ls rest)) :
    W p l e R s m args below meth c H locs cells slots Q (F0 m pc ls st) := by
  subst hst
  subst hc9
  subst hs9
  have hp := cy_pre (Bs := .ref b :: As) hK hP hD hY hcut ist hty
  refine va_callv (va_runV (As := As) (rest := rest) F (hC H.size) cw ⟨hp.1, hrecv, hp.2⟩ rfl hn hsize rfl (lv_room hroom) hdg hf) hS (fun q _ h => va_free hD hS hA isC hcut.1 q h) (va_free hD hS hA isC hcut.1) (fun u t H1 locs1 ht hvm hw hB hz1 hk1 hS1 => ?_)
  obtain ⟨a1, a2⟩ := ct_back hP hD hS hA hcut perm hnp (hperm u) ht hk1 hB
  exact kk u H1 locs1 hw a1 a2 hS1
theorem cy_Vr {wo : S → Nat → va_W} {W1 : S → Nat → va_W} {post : S → Prop} (F : CallFix p m c cc nL s args Ts own) (hC : cy_r l D y wsy rm (.ref b :: As) wc tys post wo) (cw : CallW R s args own C index y bytes maxL ret wsy rm rm.cells rm.slots n) (hK : va_K D vwCl tysW s) (hP : va_P D vwCl W0 H) (hD : va_D A W0) (hS : va_S A s.heap H locs) (hA : ∀ q : Nat, s.heap.size ≤ q → A q) (hY : ct_Y s)
    (isC isR : List Nat) (hcut : ct_Cut W0 wc wr isC isR) (perm : List Nat) (hnp : va_nd perm = true) (hperm : ∀ (u : S) (r : Nat), perm.map (fun i => (wr ++ wo u r)[i]?) = (W1 u r).map some) (ist : List Nat) (hty : ist.filterMap (fun i => tysW[i]?) = tys)
    (hrecv : ∃ cell : Cell, H[b]? = some cell ∧ cell.vm.isStatics = false ∧ s.vm.findClass C = some cell.cls) (hn : As.length = n) (hsize : ls.size = nL) (hst : st = As.reverse ++ .ref b :: rest) (hroom : (rest.map fun v => v.category).sum ≤ 8) {cells1 slots1 : Nat} (hc9 : cells + rm.cells = cells1) (hs9 : slots + rm.slots = slots1) (hf : cells1 ≤ R.cells ∧ slots1 ≤ R.slots) (hdg : decode cc pc = .ok (.invokevirtual index, 3))
    (kk : ∀ (u : S) (r : Nat) (H1 : Heap) (locs1 : List Loc), post u → va_P D vwCl (W1 u r) H1 → va_D A (W1 u r) → va_S A s.heap H1 locs1 → W p l e R s m args below meth c H1 locs1 cells1 slots1 Q (F0 m (pc + 3) ls (.ref r :: rest))) :
    W p l e R s m args below meth c H locs cells slots Q (F0 m pc ls st) := by
  subst hst
  subst hc9
  subst hs9
  have hp := cy_pre (Bs := .ref b :: As) hK hP hD hY hcut ist hty
  refine va_callr (va_runV (As := As) (rest := rest) F (hC H.size) cw ⟨hp.1, hrecv, hp.2⟩ rfl hn hsize rfl (lv_room hroom) hdg hf) hS (fun q _ h => va_free hD hS hA isC hcut.1 q h) (va_free hD hS hA isC hcut.1) (fun u r t H1 locs1 ht hvm hw hB hz1 hk1 hS1 => ?_)
  obtain ⟨a1, a2⟩ := ct_back (wo := fun u : S => wo u r) (W1 := fun u : S => W1 u r) (u := u) hP hD hS hA hcut perm hnp (hperm u r) ht hk1 hB
  exact kk u r H1 locs1 hw a1 a2 hS1
end CYC
end
section
/-! columns: an int[x][y] of Java over a flat function, cell 8 * y + x -/
def gf (f : Nat → Int32) (x : Nat) : Nat → Int32 := fun y => f (8 * y + x)
def gR (n : Nat) (r : Nat → Nat) : Nat → Option Nat := fun i => if i < n then some (r i) else none
theorem gR_at {n : Nat} {r : Nat → Nat} {x : Nat} (hx : x < n) : gR n r x = some (r x) := if_pos hx
abbrev grL (r : Nat → Nat) (cI : ClassId) (f : Nat → Int32) : va_W := [(r 0, .inl (cI, 8, .inl (gf f 0))), (r 1, .inl (cI, 8, .inl (gf f 1))), (r 2, .inl (cI, 8, .inl (gf f 2))), (r 3, .inl (cI, 8, .inl (gf f 3))), (r 4, .inl (cI, 8, .inl (gf f 4))), (r 5, .inl (cI, 8, .inl (gf f 5))), (r 6, .inl (cI, 8, .inl (gf f 6))), (r 7, .inl (cI, 8, .inl (gf f 7)))]
abbrev gr (a : Nat) (r : Nat → Nat) (cI cJ : ClassId) (f : Nat → Int32) : va_W := (a, .inl (cJ, 8, rf5 (gR 8 r))) :: grL r cI f
theorem grL_at {r : Nat → Nat} {cI : ClassId} {f : Nat → Int32} {x : Nat} (hx : x < 8) : (grL r cI f)[x]? = some (r x, .inl (cI, 8, .inl (gf f x))) := by
  rcases (show x = 0 ∨ x = 1 ∨ x = 2 ∨ x = 3 ∨ x = 4 ∨ x = 5 ∨ x = 6 ∨ x = 7 by omega) with rfl | rfl | rfl | rfl | rfl | rfl | rfl | rfl <;> rfl
theorem gf_upd {f : Nat → Int32} {x y i : Nat} {v : Int32} (hx : x < 8) (hi : i < 8) : gf (upd f (8 * y + x) v) i = if i = x then upd (gf f x) y v else gf f i := by
  funext j
  unfold gf upd
  by_cases e : i = x
  · subst e
    rw [if_pos rfl]
    by_cases e2 : j = y
    · subst e2
      rw [if_pos rfl, if_pos rfl]
    · rw [if_neg e2, if_neg (by omega)]
  · rw [if_neg e, if_neg (by omega)]
theorem grL_set {r : Nat → Nat} {cI : ClassId} {f : Nat → Int32} {x y : Nat} {v : Int32} (hx : x < 8) : (grL r cI f).set x (r x, .inl (cI, 8, .inl (upd (gf f x) y v))) = grL r cI (upd f (8 * y + x) v) := by
  apply List.ext_getElem?
  intro i
  rw [List.getElem?_set]
  by_cases hi : i < 8
  · rw [grL_at hi, grL_at hi, gf_upd hx hi]
    by_cases e : x = i
    · subst e
      rw [if_pos rfl, if_pos rfl]
      have : x < (grL r cI f).length := hx
      rw [if_pos this]
    · have e' : ¬ i = x := fun h => e h.symm
      rw [if_neg e, if_neg e']
  · have e : ¬ x = i := by omega
    rw [if_neg e, List.getElem?_eq_none (by show 8 ≤ i; omega), List.getElem?_eq_none (by show 8 ≤ i; omega)]
theorem gr_row {ws : va_W} {q : Nat} {r : Nat → Nat} {cI : ClassId} {f : Nat → Int32} (h1 : ws.drop q = grL r cI f ++ ws.drop (q + 8)) {x : Nat} (hx : x < 8) : ws[q + x]? = some (r x, .inl (cI, 8, .inl (gf f x))) := by
  rw [← List.getElem?_drop, h1, List.getElem?_append_left (show x < (grL r cI f).length from hx), grL_at hx]
theorem gr_set {ws ws1 : va_W} {q : Nat} {r : Nat → Nat} {cI : ClassId} {f : Nat → Int32} {x y c : Nat} {v : Int32} (h1 : ws.drop q = grL r cI f ++ ws.drop (q + 8)) (h2 : ws1 = ws.take q ++ (grL r cI (upd f c v) ++ ws.drop (q + 8))) (hx : x < 8) (hc : 8 * y + x = c) : ws.set (q + x) (r x, .inl (cI, 8, .inl (upd (gf f x) y v))) = ws1 := by
  subst hc
  rw [h2, ← grL_set hx]
  generalize (r x, (.inl (cI, 8, .inl (upd (gf f x) y v)) : va_E)) = E
  have hq : q ≤ ws.length := by
    apply Classical.byContradiction
    intro hn
    have e : ws.drop q = [] := List.drop_eq_nil_iff.mpr (by omega)
    rw [e] at h1
    cases h1
  have hl : (ws.take q).length = q := by rw [List.length_take]; omega
  have e : ws.set (q + x) E = (ws.take q ++ ws.drop q).set (q + x) E := by rw [List.take_append_drop]
  rw [e, List.set_append, if_neg (by omega), hl, h1]
  have e2 : q + x - q = x := by omega
  rw [e2, List.set_append, if_pos (show x < (grL r cI f).length from hx)]
/-- a grid's numbers beyond its cells don't matter -/
theorem gr_ext {D : va_G} {cl : List vw_C} {A : Nat → Prop} {H : Heap} {ws ws1 : va_W} {q : Nat} {r : Nat → Nat} {cI : ClassId} {f g : Nat → Int32} (hP : va_P D cl ws H) (hD : va_D A ws) (h1 : ws.drop q = grL r cI f ++ ws.drop (q + 8)) (h2 : ws1 = ws.take q ++ (grL r cI g ++ ws.drop (q + 8))) (h : ∀ c : Nat, c < 64 → f c = g c) : va_P D cl ws1 H ∧ va_D A ws1 := by
  have hw : ws = ws.take q ++ (grL r cI f ++ ws.drop (q + 8)) := by rw [← h1, List.take_append_drop]
  have hlen : ws1.length = ws.length := by rw [h2, congrArg List.length hw]; simp only [List.length_append]; rfl
  have key : ∀ k : Nat, ws1[k]? = ws[k]? ∨ ∃ x : Nat, x < 8 ∧ ws[k]? = some (r x, .inl (cI, 8, .inl (gf f x))) ∧ ws1[k]? = some (r x, .inl (cI, 8, .inl (gf g x))) := by
    intro k
    generalize ws.take q = T at *
    generalize ws.drop (q + 8) = U at *
    subst h2
    by_cases h3 : k < T.length
    · left
      rw [hw, List.getElem?_append_left h3, List.getElem?_append_left h3]
    · by_cases h4 : k - T.length < 8
      · right
        refine ⟨k - T.length, h4, ?_, ?_⟩
        · rw [hw, List.getElem?_append_right (by omega), List.getElem?_append_left (show _ < (grL r cI f).length from h4), grL_at h4]
        · rw [List.getElem?_append_right (by omega), List.getElem?_append_left (show _ < (grL r cI g).length from h4), grL_at h4]
      · left
        have z1 : (T ++ (grL r cI g ++ U))[k]? = U[k - T.length - 8]? := by
          rw [List.getElem?_append_right (by omega)]
          exact List.getElem?_append_right (show 8 ≤ k - T.length by omega)
        have z2 : (T ++ (grL r cI f ++ U))[k]? = U[k - T.length - 8]? := by
          rw [List.getElem?_append_right (by omega)]
          exact List.getElem?_append_right (show 8 ≤ k - T.length by omega)
        rw [z1, hw, z2]
  have fst : ∀ (k : Nat) (p : Nat × va_E), ws1[k]? = some p → ∃ p', ws[k]? = some p' ∧ p'.1 = p.1 := by
    intro k p hp
    rcases key k with h3 | ⟨x, hx, h3, h4⟩
    · exact ⟨p, by rw [← h3]; exact hp, rfl⟩
    · rw [h4] at hp
      cases hp
      exact ⟨_, h3, rfl⟩
  refine ⟨fun k p hp => ?_, fun i j p p' hi hj e => ?_, fun k p hp => ?_⟩
  · rcases key k with h3 | ⟨x, hx, h3, h4⟩
    · exact hP k p (by rw [← h3]; exact hp)
    · rw [h4] at hp
      cases hp
      have h5 := hP k _ h3
      show H[r x]? = some (vp_cell cI (8, .inl (gf g x)))
      rw [← ct_arr (cA := cI) (n := 8) (f := gf f x) (g := gf g x) (fun j hj => h (8 * j + x) (by omega))]
      exact h5
  · obtain ⟨a, ha, ea⟩ := fst i p hi
    obtain ⟨b, hb, eb⟩ := fst j p' hj
    exact hD.1 i j a b ha hb (ea.trans (e.trans eb.symm))
  · obtain ⟨a, ha, ea⟩ := fst k p hp
    rw [← ea]
    exact hD.2 k a ha
section GRW
variable {p : Program} {l : Launch} {e : Env} {R : Room} {s : State} {m : MethodId} {args : Array Value} {below : List Frame} {meth : Method} {c : Code} {H H0 : Heap} {locs : List Loc} {cells slots : Nat} {Q : State → Prop}
variable {pc : Nat} {ls : Array Slot} {rest : List Value} {cc : ByteArray} {D : va_G} {cl : List vw_C} {tys : List (ClassId × FieldType)} {A : Nat → Prop} {ws ws1 : va_W} {a : Nat} {cI cJ : ClassId} {r : Nat → Nat} {f : Nat → Int32}
theorem gr_aald (hexec : p.tables.exec = Jvm.exec) (hb : c.code = cc) (hK : va_K D cl tys s) (hP : va_P D cl ws H) (q0 t1 : Nat) {ty : FieldType} {n : Nat} (ha : ws[q0]? = some (a, .inl (cJ, n, rf5 (gR n r)))) (ht1 : tys[t1]? = some (cJ, .array ty)) (x : Nat) {i : Int32} (hi : i = nI x) (hx : x < n) (hn : n < 2 ^ 31) (hdg : decode cc pc = .ok (.aaload, 1))
    (kk : W p l e R s m args below meth c H locs cells slots Q (F0 m (pc + 1) ls (.ref (r x) :: rest))) : W p l e R s m args below meth c H locs cells slots Q (F0 m pc ls (.int i :: .ref a :: rest)) := by
  subst hi
  have hcl : (nI x).toNatClampNeg = x := nI_clamp (by omega)
  have e : va_rf (gR n r x) = .ref (r x) := by rw [gR_at hx]; rfl
  refine W.aald (v := .ref (r x)) (ty := .array ty) hexec hb (hP q0 _ ha) ((hK.2 t1 _ ht1).1 n (fun j => va_rf (gR n r j))) rfl (fun q => by cases q) ?_ ?_ rfl rfl hdg kk
  · show ¬ (nI x < 0 ∨ (arrV cJ n (fun j => va_rf (gR n r j))).slots.size ≤ (nI x).toNatClampNeg)
    rw [arrV_size, hcl]
    exact fun h => h.elim (nI_pos (by omega)) (fun h => absurd h (by omega))
  · show (arrV _ _ _).slots[_]? = _
    rw [hcl, arrV_read _ _ hx, e]
theorem gr_iald (hexec : p.tables.exec = Jvm.exec) (hb : c.code = cc) (hK : va_K D cl tys s) (hP : va_P D cl ws H) (q t0 : Nat) (h1 : ws.drop q = grL r cI f ++ ws.drop (q + 8)) (ht : tys[t0]? = some (cI, .int)) (x y k : Nat) (hx : x < 8) (hy : y < 8) (hk : 8 * y + x = k) {i v : Int32} (hi : i = nI y) (hv : f k = v) (hdg : decode cc pc = .ok (.iaload, 1))
    (kk : W p l e R s m args below meth c H locs cells slots Q (F0 m (pc + 1) ls (.int v :: rest))) : W p l e R s m args below meth c H locs cells slots Q (F0 m pc ls (.int i :: .ref (r x) :: rest)) := by
  subst hk
  exact ct_iald hexec hb hK hP (q + x) t0 (gr_row h1 hx) ht y hi hy (by decide) hv hdg kk
theorem gr_iast (hexec : p.tables.exec = Jvm.exec) (hb : c.code = cc) (hK : va_K D cl tys s) (hP : va_P D cl ws H) (hD : va_D A ws) (hS : va_S A H0 H locs) (q t0 : Nat) (h1 : ws.drop q = grL r cI f ++ ws.drop (q + 8)) (ht : tys[t0]? = some (cI, .int)) (x y k : Nat) (hx : x < 8) (hy : y < 8) (hk : 8 * y + x = k) {i v : Int32} (hi : i = nI y) (h2 : ws1 = ws.take q ++ (grL r cI (upd f k v) ++ ws.drop (q + 8))) (hdg : decode cc pc = .ok (.iastore, 1))
    (kk : ∀ (H1 : Heap) (locs1 : List Loc), va_P D cl ws1 H1 → va_D A ws1 → va_S A H0 H1 locs1 → W p l e R s m args below meth c H1 locs1 cells slots Q (F0 m (pc + 1) ls rest)) : W p l e R s m args below meth c H locs cells slots Q (F0 m pc ls (.int v :: .int i :: .ref (r x) :: rest)) :=
  ct_iast hexec hb hK hP hD hS (q + x) t0 (gr_row h1 hx) ht y hi hy (by decide) rfl (gr_set h1 h2 hx hk) hdg kk
theorem gr_zald (hexec : p.tables.exec = Jvm.exec) (hb : c.code = cc) (hK : va_K D cl tys s) (hP : va_P D cl ws H) (q t0 : Nat) (h1 : ws.drop q = grL r cI f ++ ws.drop (q + 8)) (ht : tys[t0]? = some (cI, .boolean)) (x y k : Nat) (hx : x < 8) (hy : y < 8) (hk : 8 * y + x = k) {i v : Int32} (hi : i = nI y) (hv : f k = v) (hdg : decode cc pc = .ok (.baload, 1))
    (kk : W p l e R s m args below meth c H locs cells slots Q (F0 m (pc + 1) ls (.int v :: rest))) : W p l e R s m args below meth c H locs cells slots Q (F0 m pc ls (.int i :: .ref (r x) :: rest)) := by
  subst hk
  subst hi
  refine va_zald hexec hb hK hP (q + x) t0 (gr_row h1 hx) ht (vp_in_nI hy (by decide)) hdg ?_
  rw [nI_clamp (by omega)]
  have e : gf f x y = v := hv
  rw [e]
  exact kk
theorem gr_zast (hexec : p.tables.exec = Jvm.exec) (hb : c.code = cc) (hK : va_K D cl tys s) (hP : va_P D cl ws H) (hD : va_D A ws) (hS : va_S A H0 H locs) (q t0 : Nat) (h1 : ws.drop q = grL r cI f ++ ws.drop (q + 8)) (ht : tys[t0]? = some (cI, .boolean)) (x y k : Nat) (hx : x < 8) (hy : y < 8) (hk : 8 * y + x = k) {i : Int32} (hi : i = nI y) (h2 : ws1 = ws.take q ++ (grL r cI (upd f k 1) ++ ws.drop (q + 8))) (hdg : decode cc pc = .ok (.bastore, 1))
    (kk : ∀ (H1 : Heap) (locs1 : List Loc), va_P D cl ws1 H1 → va_D A ws1 → va_S A H0 H1 locs1 → W p l e R s m args below meth c H1 locs1 cells slots Q (F0 m (pc + 1) ls rest)) : W p l e R s m args below meth c H locs cells slots Q (F0 m pc ls (.int 1 :: .int i :: .ref (r x) :: rest)) := by
  subst hi
  refine va_zast hexec hb hK hP hD hS (q + x) t0 (gr_row h1 hx) ht (vp_in_nI hy (by decide)) hdg (fun H1 locs1 a1 a2 a3 => ?_)
  rw [nI_clamp (by omega)] at a1 a2
  have e : vp_nar .boolean 1 = 1 := by decide
  rw [e, gr_set h1 h2 hx hk] at a1 a2
  exact kk H1 locs1 a1 a2 a3
theorem gr_one {ty : FieldType} {cA : ClassId} (h1 : va_K D cl tys s) (t1 : Nat) (ht : tys[t1]? = some (cJ, .array ty)) (h2 : va_K D cl (tys ++ [(cA, .array ty)]) s) : cA = cJ := by
  have a1 : s.vm.findClass _ = some cJ := (h1.2 t1 _ ht).2
  have h3 : (tys ++ [(cA, FieldType.array ty)])[tys.length]? = some (cA, .array ty) := by simp
  have a2 : s.vm.findClass _ = some cA := (h2.2 tys.length _ h3).2
  exact Option.some.inj (a2.symm.trans a1)
/-- new int[N][K] -/
theorem gr_mna (hexec : p.tables.exec = Jvm.exec) (hb : c.code = cc) {own : String} {index : Nat} (hown : s.vm.findClass own = some m.cls) (hclink : (Cond.classLink own index "[[I").before args s = true) (hover : va_AOA .int s) (harr : (Cond.arrayClass .int).before args s = true) (t0 t1 : Nat) (ht0 : tys[t0]? = some (cI, .int)) (ht1 : tys[t1]? = some (cJ, .array .int))
    (hK : va_K D cl tys s) (hP : va_P D cl ws H) (hD : va_D A ws) (hS : va_S A H0 H locs) (hA : ∀ q, H0.size ≤ q → A q) {n k : Int32} (N K : Nat) (hn : n = nI N) (hk : k = nI K) (hN : N < 1000) (hM : K < 1000) {cells1 slots1 : Nat} (hc9 : cells + (1 + N) = cells1) (hs9 : slots + (N + N * K) = slots1) (hcells : cells1 ≤ R.cells) (hslots : slots1 ≤ R.slots) (hdg : decode cc pc = .ok (.multianewarray index 2, 4))
    (kk : ∀ (q : Nat) (r : Nat → Nat) (H1 : Heap), va_P D cl (ws ++ ((q, .inl (cJ, N, rf5 (gR N r))) :: (List.range N).map (fun i => (r i, .inl (cI, K, .inl (fun _ => 0)))))) H1 → va_D A (ws ++ ((q, .inl (cJ, N, rf5 (gR N r))) :: (List.range N).map (fun i => (r i, .inl (cI, K, .inl (fun _ => 0)))))) → va_S A H0 H1 locs →
      W p l e R s m args below meth c H1 locs cells1 slots1 Q (F0 m (pc + 4) ls (.ref q :: rest))) : W p l e R s m args below meth c H locs cells slots Q (F0 m pc ls (.int k :: .int n :: rest)) := by
  subst hn
  subst hk
  have a2 : s.vm.findClass (FieldType.array .int).toString = some cI := by
    have h := (hK.2 t0 _ ht0).2
    exact h
  have e0 : ws ++ va_pl [] (fun _ => (.inl (cI, K, .inl (fun _ => 0)) : va_E)) = ws := List.append_nil ws
  refine va_mna (X := ws) (L := []) (f := fun _ => .inl (cI, K, .inl (fun _ => 0))) (ty := .int) (cy := cI) (z := (K, .inl (fun _ => 0))) hexec hb hown hclink hover harr a2 hK (by rw [e0]; exact hP) (by rw [e0]; exact hD) hS hA (nI_pos (by omega)) (nI_pos (by omega)) (nI_clamp (by omega)) (nI_clamp (by omega)) (by omega) (by show K * 4 ≤ 536870912; omega) (by omega) rfl rfl (by omega) (by omega) (fun cA => ?_) hdg (fun q r cA H1 hinj hnl hK1 hP1 hD1 hS1 => ?_)
  · rw [vp_cell_i]
    exact arrV_new cA K (.int 0)
  · obtain rfl := gr_one hK t1 ht1 hK1
    have e1 : (ws ++ [(q, (.inl (cA, N, .inr (.inr (.inr (.inr (fun i => if i < N then some (r i) else none))))) : va_E))]) ++ va_pl ([] ++ (List.range N).map r) (vr_up (fun _ => (.inl (cI, K, .inl (fun _ => 0)) : va_E)) ((List.range N).map r) (.inl (cI, K, .inl (fun _ => 0)))) = ws ++ ((q, .inl (cA, N, rf5 (gR N r))) :: (List.range N).map (fun i => (r i, .inl (cI, K, .inl (fun _ => 0))))) := by
      rw [← vr_rows (L := []) (l := (List.range N).map r) (fun a _ h => by cases h), List.map_map, List.append_assoc]
      first | rfl | (simp only [va_pl, List.map_nil, List.nil_append, List.cons_append, List.singleton_append]; rfl) | skip
    rw [e1] at hP1 hD1
    have ec : cells + 1 + N = cells1 := by omega
    have es : slots + N + N * K = slots1 := by omega
    rw [ec, es]
    exact kk q r H1 hP1 hD1 hS1
/-- new boolean[N][K] -/
theorem gr_mnz (hexec : p.tables.exec = Jvm.exec) (hb : c.code = cc) {own : String} {index : Nat} (hown : s.vm.findClass own = some m.cls) (hclink : (Cond.classLink own index "[[Z").before args s = true) (hover : va_AOA .boolean s) (harr : (Cond.arrayClass .boolean).before args s = true) (t0 t1 : Nat) (ht0 : tys[t0]? = some (cI, .boolean)) (ht1 : tys[t1]? = some (cJ, .array .boolean))
    (hK : va_K D cl tys s) (hP : va_P D cl ws H) (hD : va_D A ws) (hS : va_S A H0 H locs) (hA : ∀ q, H0.size ≤ q → A q) {n k : Int32} (N K : Nat) (hn : n = nI N) (hk : k = nI K) (hN : N < 1000) (hM : K < 1000) {cells1 slots1 : Nat} (hc9 : cells + (1 + N) = cells1) (hs9 : slots + (N + N * K) = slots1) (hcells : cells1 ≤ R.cells) (hslots : slots1 ≤ R.slots) (hdg : decode cc pc = .ok (.multianewarray index 2, 4))
    (kk : ∀ (q : Nat) (r : Nat → Nat) (H1 : Heap), va_P D cl (ws ++ ((q, .inl (cJ, N, rf5 (gR N r))) :: (List.range N).map (fun i => (r i, .inl (cI, K, .inl (fun _ => 0)))))) H1 → va_D A (ws ++ ((q, .inl (cJ, N, rf5 (gR N r))) :: (List.range N).map (fun i => (r i, .inl (cI, K, .inl (fun _ => 0)))))) → va_S A H0 H1 locs →
      W p l e R s m args below meth c H1 locs cells1 slots1 Q (F0 m (pc + 4) ls (.ref q :: rest))) : W p l e R s m args below meth c H locs cells slots Q (F0 m pc ls (.int k :: .int n :: rest)) := by
  subst hn
  subst hk
  have a2 : s.vm.findClass (FieldType.array .boolean).toString = some cI := by
    have h := (hK.2 t0 _ ht0).2
    exact h
  have e0 : ws ++ va_pl [] (fun _ => (.inl (cI, K, .inl (fun _ => 0)) : va_E)) = ws := List.append_nil ws
  refine va_mna (X := ws) (L := []) (f := fun _ => .inl (cI, K, .inl (fun _ => 0))) (ty := .boolean) (cy := cI) (z := (K, .inl (fun _ => 0))) hexec hb hown hclink hover harr a2 hK (by rw [e0]; exact hP) (by rw [e0]; exact hD) hS hA (nI_pos (by omega)) (nI_pos (by omega)) (nI_clamp (by omega)) (nI_clamp (by omega)) (by omega) (by show K * 1 ≤ 536870912; omega) (by omega) rfl rfl (by omega) (by omega) (fun cA => ?_) hdg (fun q r cA H1 hinj hnl hK1 hP1 hD1 hS1 => ?_)
  · rw [vp_cell_i]
    exact arrV_new cA K (.int 0)
  · obtain rfl := gr_one hK t1 ht1 hK1
    have e1 : (ws ++ [(q, (.inl (cA, N, .inr (.inr (.inr (.inr (fun i => if i < N then some (r i) else none))))) : va_E))]) ++ va_pl ([] ++ (List.range N).map r) (vr_up (fun _ => (.inl (cI, K, .inl (fun _ => 0)) : va_E)) ((List.range N).map r) (.inl (cI, K, .inl (fun _ => 0)))) = ws ++ ((q, .inl (cA, N, rf5 (gR N r))) :: (List.range N).map (fun i => (r i, .inl (cI, K, .inl (fun _ => 0))))) := by
      rw [← vr_rows (L := []) (l := (List.range N).map r) (fun a _ h => by cases h), List.map_map, List.append_assoc]
      first | rfl | (simp only [va_pl, List.map_nil, List.nil_append, List.cons_append, List.singleton_append]; rfl) | skip
    rw [e1] at hP1 hD1
    have ec : cells + 1 + N = cells1 := by omega
    have es : slots + N + N * K = slots1 := by omega
    rw [ec, es]
    exact kk q r H1 hP1 hD1 hS1
end GRW
end
section
/-! worlds with the callee's part in front -/
theorem gp_comm {D : va_G} {cl : List vw_C} {H : Heap} {a b : va_W} (h : va_P D cl (a ++ b) H) : va_P D cl (b ++ a) H := va_P.swap (a := []) h
theorem gp_commD {A : Nat → Prop} {a b : va_W} (h : va_D A (a ++ b)) : va_D A (b ++ a) := va_D.swap (a := []) h
theorem gp_left {D : va_G} {cl : List vw_C} {H : Heap} {a b : va_W} (h : va_P D cl (a ++ b) H) : va_P D cl a H := fun k q hk => h k q (by rw [List.getElem?_append_left (List.getElem?_eq_some_iff.mp hk).1]; exact hk)
theorem gp_leftD {A : Nat → Prop} {a b : va_W} (h : va_D A (a ++ b)) : va_D A a := ⟨fun i j p q hi hj e => h.1 i j p q (by rw [List.getElem?_append_left (List.getElem?_eq_some_iff.mp hi).1]; exact hi) (by rw [List.getElem?_append_left (List.getElem?_eq_some_iff.mp hj).1]; exact hj) e, fun k q hk => h.2 k q (by rw [List.getElem?_append_left (List.getElem?_eq_some_iff.mp hk).1]; exact hk)⟩
theorem gp_right {D : va_G} {cl : List vw_C} {H : Heap} {a b : va_W} (h : va_P D cl (a ++ b) H) : va_P D cl b H := gp_left (gp_comm h)
theorem gp_rightD {A : Nat → Prop} {a b : va_W} (h : va_D A (a ++ b)) : va_D A b := gp_leftD (gp_commD h)
theorem gp_in {A : Nat → Prop} {wc wr : va_W} {H0 H : Heap} {locs : List Loc} (hD : va_D A (wc ++ wr)) (hS : va_S A H0 H locs) (hA : ∀ q : Nat, H0.size ≤ q → A q) : ∀ q, va_A wc H.size q → A q := by
  intro q h
  rcases h with ⟨k, e, h⟩ | h
  · exact (gp_leftD hD).2 k _ h
  · exact hA q (Nat.le_trans hS.1 h)
theorem gp_not {D : va_G} {cl : List vw_C} {A : Nat → Prop} {wc wr : va_W} {H : Heap} (hP : va_P D cl (wc ++ wr) H) (hD : va_D A (wc ++ wr)) {k : Nat} {q : Nat × va_E} (hk : wr[k]? = some q) : q.1 < H.size ∧ ¬ va_A wc H.size q.1 := by
  have hl : q.1 < H.size := (gp_right hP k q hk).lt
  refine ⟨hl, fun h => ?_⟩
  rcases h with ⟨k', e', h⟩ | h
  · have h1 : (wc ++ wr)[k']? = some (q.1, e') := by rw [List.getElem?_append_left (List.getElem?_eq_some_iff.mp h).1]; exact h
    have h2 : (wc ++ wr)[wc.length + k]? = some q := by rw [List.getElem?_append_right (by omega), show wc.length + k - wc.length = k by omega]; exact hk
    have h3 := hD.1 k' (wc.length + k) _ _ h1 h2 rfl
    have h4 := (List.getElem?_eq_some_iff.mp h).1
    omega
  · omega
theorem gp_join {D : va_G} {cl : List vw_C} {A : Nat → Prop} {wc wr w1 : va_W} {H0 H H1 : Heap} {locs : List Loc} (hP : va_P D cl (wc ++ wr) H) (hD : va_D A (wc ++ wr)) (hS : va_S A H0 H locs) (hA : ∀ q : Nat, H0.size ≤ q → A q)
    (hk : ∀ q : Nat, q < H.size → ¬ va_A wc H.size q → H1[q]? = H[q]?) (hP1 : va_P D cl w1 H1) (hD1 : va_D (va_A wc H.size) w1) : va_P D cl (w1 ++ wr) H1 ∧ va_D A (w1 ++ wr) := by
  have hr : va_P D cl wr H1 := (gp_right hP).kept (fun k q hq => by
    obtain ⟨a, b⟩ := gp_not hP hD hq
    exact hk q.1 a b)
  have hin := gp_in hD hS hA
  refine ⟨hP1.app hr, fun i j p q hi hj e => ?_, fun k q hq => ?_⟩
  · by_cases h1 : i < w1.length <;> by_cases h2 : j < w1.length
    · rw [List.getElem?_append_left h1] at hi
      rw [List.getElem?_append_left h2] at hj
      exact hD1.1 i j p q hi hj e
    · rw [List.getElem?_append_left h1] at hi
      rw [List.getElem?_append_right (by omega)] at hj
      exact absurd (by rw [← e]; exact hD1.2 i p hi) (gp_not hP hD hj).2
    · rw [List.getElem?_append_right (by omega)] at hi
      rw [List.getElem?_append_left h2] at hj
      exact absurd (by rw [e]; exact hD1.2 j q hj) (gp_not hP hD hi).2
    · rw [List.getElem?_append_right (by omega)] at hi hj
      have := (gp_rightD hD).1 _ _ p q hi hj e
      omega
  · by_cases h1 : k < w1.length
    · rw [List.getElem?_append_left h1] at hq
      exact hin _ (hD1.2 k q hq)
    · rw [List.getElem?_append_right (by omega)] at hq
      exact (gp_rightD hD).2 _ q hq
/-! what the law knows beside its worlds: what a throw needs, rows of rows, the script -/
abbrev Kx : Type := Nat × Nat × Nat × Nat × (Nat → Int32)
def cg_X (κ : Kx) (A : Nat → Prop) (U : State) (H : Heap) : Prop := ct_T κ.1 κ.2.1 A U H ∧ va_AOA .int U ∧ va_AOA .boolean U ∧ va_X κ.2.2.1 κ.2.2.2.1 κ.2.2.2.2 U H ∧ κ.2.2.1 < H.size ∧ ¬ A κ.2.2.1
theorem cg_X.warm {κ : Kx} {A : Nat → Prop} {s U : State} {H : Heap} (h : cg_X κ A s H) (hW : s.WarmedH U.vm) : cg_X κ A U H := ⟨h.1.warm hW, h.2.1.moved hW.alike, h.2.2.1.moved hW.alike, h.2.2.2.1.moved hW.alike, h.2.2.2.2⟩
theorem cg_X.same {κ : Kx} {A : Nat → Prop} {s U : State} {H : Heap} (hv : U.vm = s.vm) (h : cg_X κ A s H) : cg_X κ A U H := by
  have ha : s.vm.Alike U.vm := by rw [hv]; exact Vm.Alike.refl _
  exact ⟨⟨ct_TF.same hv h.1.1, h.1.2.1.moved ha, h.1.2.2.moved ha⟩, h.2.1.moved ha, h.2.2.1.moved ha, h.2.2.2.1.moved ha, h.2.2.2.2⟩
theorem cg_X.kept {κ : Kx} {A : Nat → Prop} {s : State} {H H1 : Heap} (h : cg_X κ A s H) (hz : H.size ≤ H1.size) (hq : ∀ a : Nat, a < H.size → ¬ A a → H1[a]? = H[a]?) : cg_X κ A s H1 := ⟨h.1.kept hq, h.2.1, h.2.2.1, h.2.2.2.1.kept (hq _ h.2.2.2.2.1 h.2.2.2.2.2), Nat.lt_of_lt_of_le h.2.2.2.2.1 hz, h.2.2.2.2.2⟩
theorem cg_X.narrow {κ : Kx} {A B : Nat → Prop} {s : State} {H : Heap} (h : cg_X κ A s H) (hAB : ∀ q, B q → A q) : cg_X κ B s H := ⟨h.1.narrow hAB, h.2.1, h.2.2.1, h.2.2.2.1, h.2.2.2.2.1, fun h9 => h.2.2.2.2.2 (hAB _ h9)⟩
def cg_Pc (D : va_G) (As : List Value) (wc : va_W) (tys : List (ClassId × FieldType)) (κ : Kx) (sz : Nat) : Array Value → State → Prop := va_Pc As (fun U => U.heap.size = sz ∧ va_P D vwCl wc U.heap ∧ va_K D vwCl tys U ∧ va_D (fun _ => True) wc ∧ cg_X κ (va_A wc sz) U U.heap)
theorem cg_frameblind {D : va_G} {As : List Value} {wc : va_W} {tys : List (ClassId × FieldType)} {κ : Kx} {sz : Nat} : FrameBlind (cg_Pc D As wc tys κ sz) := by
  intro a U g mk q
  obtain ⟨q0, q1, qP, qK, qD, qX⟩ := q
  exact ⟨q0, q1, qP, va_K.moved (u := U) (U := U.calling g mk a) (Vm.Alike.refl U.vm) qK, qD, cg_X.same (s := U) (U := U.calling g mk a) rfl qX⟩
/-! contracts: int, boolean, nothing, a cell -/
def cg_i {S : Type} (l : Launch) (D : va_G) (y : MethodName) (ws : List Cond) (rm : Room) (As : List Value) (wc : va_W) (tys : List (ClassId × FieldType)) (κ : Kx) (post : Int32 → S → Prop) (wo : S → va_W) : Prop := ∀ sz : Nat, Met l y ws rm (cg_Pc D As wc tys κ sz) (ct_Qi D tys post wo (va_A wc sz)) rm.cells rm.slots (va_A wc sz)
def cg_v {S : Type} (l : Launch) (D : va_G) (y : MethodName) (ws : List Cond) (rm : Room) (As : List Value) (wc : va_W) (tys : List (ClassId × FieldType)) (κ : Kx) (post : S → Prop) (wo : S → va_W) : Prop := ∀ sz : Nat, Met l y ws rm (cg_Pc D As wc tys κ sz) (ct_Qv D tys post wo (va_A wc sz)) rm.cells rm.slots (va_A wc sz)
def cg_r {S : Type} (l : Launch) (D : va_G) (y : MethodName) (ws : List Cond) (rm : Room) (As : List Value) (wc : va_W) (tys : List (ClassId × FieldType)) (κ : Kx) (post : S → Prop) (wo : S → Nat → va_W) : Prop := ∀ sz : Nat, Met l y ws rm (cg_Pc D As wc tys κ sz) (ct_Qr D tys post wo (va_A wc sz)) rm.cells rm.slots (va_A wc sz)
/-- an int that may draw -/
def cg_d {S : Type} (l : Launch) (D : va_G) (y : MethodName) (ws : List Cond) (rm : Room) (As : List Value) (wc : va_W) (tys : List (ClassId × FieldType)) (κ : Kx) (post : Int32 → S → Prop) (wo : S → va_W) : Prop := ∀ sz : Nat, MetD lw_cs l y ws rm (cg_Pc D As wc tys κ sz) (ct_Qi D tys post wo (va_A wc sz)) rm.cells rm.slots (va_A wc sz)
/-- what a body starts from -/
def cg_S (p : Program) (s : State) (m : MethodId) (args : Array Value) (c : Code) (A : Nat → Prop) (D : va_G) (y : MethodName) (ws : List Cond) (cc : ByteArray) (maxL : Nat) (tys : List (ClassId × FieldType)) (κ : Kx) : Prop :=
  p.tables.exec = Jvm.exec ∧ c.code = cc ∧ c.maxLocals = maxL ∧ s.vm.findClass y.cls = some m.cls ∧ (∀ w ∈ ws, w.before args s = true) ∧ (∀ q : Nat, s.heap.size ≤ q → A q) ∧ va_K D vwCl tys s ∧ cg_X κ A s s.heap
def cg_Bi {S : Type} (l : Launch) (D : va_G) (y : MethodName) (ws : List Cond) (rm : Room) (cc : ByteArray) (maxL : Nat) (As : List Value) (wc : va_W) (tys : List (ClassId × FieldType)) (κ : Kx) (post : Int32 → S → Prop) (wo : S → va_W) : Prop :=
  ∀ (p : Program) (e : Env) (s : State) (m : MethodId) (args : Array Value) (below : List Frame) (meth : Method) (c : Code) (A : Nat → Prop) (Q : State → Prop), cg_S p s m args c A D y ws cc maxL tys κ → ∀ (H : Heap) (locs : List Loc), va_P D vwCl wc H → va_D A wc → va_S A s.heap H locs →
    (∀ (v : Int32) (u : S) (H : Heap) (locs : List Loc) (cells slots pc : Nat) (ls : Array Slot), decode cc pc = .ok (.ireturn, 1) → post v u → va_P D vwCl (wo u) H → va_D A (wo u) → va_S A s.heap H locs → cells ≤ rm.cells → slots ≤ rm.slots → W p l e rm s m args below meth c H locs cells slots Q (F0 m pc ls [.int v])) →
    ∀ ls : Array Slot, lv_has ls maxL (lv_args 0 As) → W p l e rm s m args below meth c H locs 0 0 Q (F0 m 0 ls [])
def cg_Bv {S : Type} (l : Launch) (D : va_G) (y : MethodName) (ws : List Cond) (rm : Room) (cc : ByteArray) (maxL : Nat) (As : List Value) (wc : va_W) (tys : List (ClassId × FieldType)) (κ : Kx) (post : S → Prop) (wo : S → va_W) : Prop :=
  ∀ (p : Program) (e : Env) (s : State) (m : MethodId) (args : Array Value) (below : List Frame) (meth : Method) (c : Code) (A : Nat → Prop) (Q : State → Prop), cg_S p s m args c A D y ws cc maxL tys κ → ∀ (H : Heap) (locs : List Loc), va_P D vwCl wc H → va_D A wc → va_S A s.heap H locs →
    (∀ (u : S) (H : Heap) (locs : List Loc) (cells slots pc : Nat) (ls : Array Slot), decode cc pc = .ok (.return_, 1) → post u → va_P D vwCl (wo u) H → va_D A (wo u) → va_S A s.heap H locs → cells ≤ rm.cells → slots ≤ rm.slots → W p l e rm s m args below meth c H locs cells slots Q (F0 m pc ls [])) →
    ∀ ls : Array Slot, lv_has ls maxL (lv_args 0 As) → W p l e rm s m args below meth c H locs 0 0 Q (F0 m 0 ls [])
def cg_Br {S : Type} (l : Launch) (D : va_G) (y : MethodName) (ws : List Cond) (rm : Room) (cc : ByteArray) (maxL : Nat) (As : List Value) (wc : va_W) (tys : List (ClassId × FieldType)) (κ : Kx) (post : S → Prop) (wo : S → Nat → va_W) : Prop :=
  ∀ (p : Program) (e : Env) (s : State) (m : MethodId) (args : Array Value) (below : List Frame) (meth : Method) (c : Code) (A : Nat → Prop) (Q : State → Prop), cg_S p s m args c A D y ws cc maxL tys κ → ∀ (H : Heap) (locs : List Loc), va_P D vwCl wc H → va_D A wc → va_S A s.heap H locs →
    (∀ (v : Nat) (u : S) (H : Heap) (locs : List Loc) (cells slots pc : Nat) (ls : Array Slot), decode cc pc = .ok (.areturn, 1) → post u → va_P D vwCl (wo u v) H → va_D A (wo u v) → va_S A s.heap H locs → cells ≤ rm.cells → slots ≤ rm.slots → W p l e rm s m args below meth c H locs cells slots Q (F0 m pc ls [.ref v])) →
    ∀ ls : Array Slot, lv_has ls maxL (lv_args 0 As) → W p l e rm s m args below meth c H locs 0 0 Q (F0 m 0 ls [])
def cg_Bd {S : Type} (l : Launch) (D : va_G) (y : MethodName) (ws : List Cond) (rm : Room) (cc : ByteArray) (maxL : Nat) (As : List Value) (wc : va_W) (tys : List (ClassId × FieldType)) (κ : Kx) (post : Int32 → S → Prop) (wo : S → va_W) : Prop :=
  ∀ (p : Program) (e : Env) (s : State) (m : MethodId) (args : Array Value) (below : List Frame) (meth : Method) (c : Code) (A : Nat → Prop) (Q : State → Prop), cg_S p (s.setDrawn s.drawn) m args c A D y ws cc maxL tys κ → ∀ (H : Heap) (locs : List Loc), va_P D vwCl wc H → va_D A wc → va_S A (s.setDrawn s.drawn).heap H locs →
    (∀ (v : Int32) (d1 : Drawn) (u : S) (H : Heap) (locs : List Loc) (cells slots pc : Nat) (ls : Array Slot), s.drawn.sameBut d1 lw_cs → decode cc pc = .ok (.ireturn, 1) → post v u → va_P D vwCl (wo u) H → va_D A (wo u) → va_S A s.heap H locs → cells ≤ rm.cells → slots ≤ rm.slots → W p l e rm (s.setDrawn d1) m args below meth c H locs cells slots Q (F0 m pc ls [.int v])) →
    ∀ ls : Array Slot, lv_has ls maxL (lv_args 0 As) → W p l e rm (s.setDrawn s.drawn) m args below meth c H locs 0 0 Q (F0 m 0 ls [])
theorem cg_ofi {S : Type} {l : Launch} {D : va_G} {y : MethodName} {ws ws' : List Cond} {rm : Room} {cc : ByteArray} {maxL : Nat} {As : List Value} {wc : va_W} {tys : List (ClassId × FieldType)} {κ : Kx} {post : Int32 → S → Prop} {wo : S → va_W}
    (hy : plainName y.cls = true) (hw : ws = Cond.code y cc maxL (some .int) :: ws') (hln : (lg_sl As).length ≤ maxL) (body : cg_Bi l D y ws rm cc maxL As wc tys κ post wo) : cg_i l D y ws rm As wc tys κ post wo := by
  intro sz
  refine Met.ofW (cc := cc) (maxL := maxL) (ret := (some .int)) hy hw ?_
  intro p e s m args below meth c s₁ B hml hv
  obtain ⟨rfl, hsz, hP, hK, hD0, hX⟩ := hv
  subst hsz
  have hD := hD0.self (sz := s.heap.size)
  have hl := lv_entry As (n := maxL) hln
  rw [lg_entry_eq]
  have hx := B.exec
  have hb := B.bytes
  have hr := B.returns
  have hlocks := B.notSynchronized
  exact body p e s m As.toArray below meth c (va_A wc s.heap.size) _ ⟨hx, hb, hml, findClass_of_methodNamed B.named, atoms_spec (ws := ws) B.pre, fun q h => Or.inr h, hK, hX⟩ s.heap [] hP hD va_S.rf
    (fun v u H locs cells slots pc ls hdg hq hP hD hS hc hs => W.widen hc hs (W.iret (v := v) hx hb hr (fun t ht hW => ⟨⟨v, u, rfl, hq, by rw [ht]; exact hP, va_K.moved hW.alike hK, hD⟩, hS.F ht⟩) hS.2.2 hdg hlocks)) _ hl
theorem cg_ofz {S : Type} {l : Launch} {D : va_G} {y : MethodName} {ws ws' : List Cond} {rm : Room} {cc : ByteArray} {maxL : Nat} {As : List Value} {wc : va_W} {tys : List (ClassId × FieldType)} {κ : Kx} {post : Int32 → S → Prop} {wo : S → va_W}
    (hz : ∀ (v : Int32) (u : S), post v u → v = 0 ∨ v = 1) (hy : plainName y.cls = true) (hw : ws = Cond.code y cc maxL (some .boolean) :: ws') (hln : (lg_sl As).length ≤ maxL) (body : cg_Bi l D y ws rm cc maxL As wc tys κ post wo) : cg_i l D y ws rm As wc tys κ post wo := by
  intro sz
  refine Met.ofW (cc := cc) (maxL := maxL) (ret := (some .boolean)) hy hw ?_
  intro p e s m args below meth c s₁ B hml hv
  obtain ⟨rfl, hsz, hP, hK, hD0, hX⟩ := hv
  subst hsz
  have hD := hD0.self (sz := s.heap.size)
  have hl := lv_entry As (n := maxL) hln
  rw [lg_entry_eq]
  have hx := B.exec
  have hb := B.bytes
  have hr := B.returns
  have hlocks := B.notSynchronized
  exact body p e s m As.toArray below meth c (va_A wc s.heap.size) _ ⟨hx, hb, hml, findClass_of_methodNamed B.named, atoms_spec (ws := ws) B.pre, fun q h => Or.inr h, hK, hX⟩ s.heap [] hP hD va_S.rf
    (fun v u H locs cells slots pc ls hdg hq hP hD hS hc hs => W.widen hc hs (W.zret (v := v) (ty := .boolean) hx hb hr (by rcases hz v u hq with rfl | rfl <;> rfl) (fun t ht hW => ⟨⟨v, u, rfl, hq, by rw [ht]; exact hP, va_K.moved hW.alike hK, hD⟩, hS.F ht⟩) hS.2.2 hdg hlocks)) _ hl
theorem cg_ofv {S : Type} {l : Launch} {D : va_G} {y : MethodName} {ws ws' : List Cond} {rm : Room} {cc : ByteArray} {maxL : Nat} {As : List Value} {wc : va_W} {tys : List (ClassId × FieldType)} {κ : Kx} {post : S → Prop} {wo : S → va_W}
    (hy : plainName y.cls = true) (hw : ws = Cond.code y cc maxL none :: ws') (hln : (lg_sl As).length ≤ maxL) (body : cg_Bv l D y ws rm cc maxL As wc tys κ post wo) : cg_v l D y ws rm As wc tys κ post wo := by
  intro sz
  refine Met.ofW (cc := cc) (maxL := maxL) (ret := none) hy hw ?_
  intro p e s m args below meth c s₁ B hml hv
  obtain ⟨rfl, hsz, hP, hK, hD0, hX⟩ := hv
  subst hsz
  have hD := hD0.self (sz := s.heap.size)
  have hl := lv_entry As (n := maxL) hln
  rw [lg_entry_eq]
  have hx := B.exec
  have hb := B.bytes
  have hr := B.returns
  have hlocks := B.notSynchronized
  exact body p e s m As.toArray below meth c (va_A wc s.heap.size) _ ⟨hx, hb, hml, findClass_of_methodNamed B.named, atoms_spec (ws := ws) B.pre, fun q h => Or.inr h, hK, hX⟩ s.heap [] hP hD va_S.rf
    (fun u H locs cells slots pc ls hdg hq hP hD hS hc hs => W.widen hc hs (W.vret hx hb hr (fun t ht hW => ⟨⟨u, rfl, hq, by rw [ht]; exact hP, va_K.moved hW.alike hK, hD⟩, hS.F ht⟩) hS.2.2 hdg hlocks)) _ hl
theorem cg_ofr {S : Type} {l : Launch} {D : va_G} {y : MethodName} {ws ws' : List Cond} {rm : Room} {cc : ByteArray} {maxL : Nat} {C : String} {As : List Value} {wc : va_W} {tys : List (ClassId × FieldType)} {κ : Kx} {post : S → Prop} {wo : S → Nat → va_W}
    (hy : plainName y.cls = true) (hw : ws = Cond.code y cc maxL (some (.object C)) :: ws') (hln : (lg_sl As).length ≤ maxL) (body : cg_Br l D y ws rm cc maxL As wc tys κ post wo) : cg_r l D y ws rm As wc tys κ post wo := by
  intro sz
  refine Met.ofW (cc := cc) (maxL := maxL) (ret := (some (.object C))) hy hw ?_
  intro p e s m args below meth c s₁ B hml hv
  obtain ⟨rfl, hsz, hP, hK, hD0, hX⟩ := hv
  subst hsz
  have hD := hD0.self (sz := s.heap.size)
  have hl := lv_entry As (n := maxL) hln
  rw [lg_entry_eq]
  have hx := B.exec
  have hb := B.bytes
  have hr := B.returns
  have hlocks := B.notSynchronized
  exact body p e s m As.toArray below meth c (va_A wc s.heap.size) _ ⟨hx, hb, hml, findClass_of_methodNamed B.named, atoms_spec (ws := ws) B.pre, fun q h => Or.inr h, hK, hX⟩ s.heap [] hP hD va_S.rf
    (fun v u H locs cells slots pc ls hdg hq hP hD hS hc hs => W.widen hc hs (W.aret (v := .ref v) (rt := .object C) hx hb hr (Or.inl ⟨_, rfl⟩) (Or.inr ⟨_, rfl⟩) (fun t ht hW => ⟨⟨u, v, rfl, hq, by rw [ht]; exact hP, va_K.moved hW.alike hK, hD⟩, hS.F ht⟩) hS.2.2 hdg hlocks)) _ hl
theorem cg_ofd {S : Type} {l : Launch} {D : va_G} {y : MethodName} {ws ws' : List Cond} {rm : Room} {cc : ByteArray} {maxL : Nat} {As : List Value} {wc : va_W} {tys : List (ClassId × FieldType)} {κ : Kx} {post : Int32 → S → Prop} {wo : S → va_W}
    (hz : ∀ (v : Int32) (u : S), post v u → v = 0 ∨ v = 1) (hy : plainName y.cls = true) (hw : ws = Cond.code y cc maxL (some .boolean) :: ws') (hln : (lg_sl As).length ≤ maxL) (body : cg_Bd l D y ws rm cc maxL As wc tys κ post wo) : cg_d l D y ws rm As wc tys κ post wo := by
  intro sz
  refine MetD.ofW (cc := cc) (maxL := maxL) (ret := some .boolean) hy hw ?_
  intro p e s m args below meth c s₁ B hml hv hd0
  obtain ⟨rfl, hsz, hP, hK, hD0, hX⟩ := hv
  subst hsz
  have hD := hD0.self (sz := s.heap.size)
  have hl := lv_entry As (n := maxL) hln
  rw [lg_entry_eq]
  have hx := B.exec
  have hb := B.bytes
  have hr := B.returns
  have hlocks := B.notSynchronized
  have hX' : cg_X κ (va_A wc s.heap.size) (s.setDrawn s.drawn) s.heap := cg_X.same (s := s) rfl hX
  exact body p e s m As.toArray below meth c (va_A wc s.heap.size) _ ⟨hx, hb, hml, findClass_of_methodNamed B.named, dr_words (atoms_spec (ws := ws) B.pre) _, fun q h => Or.inr h, hK, hX'⟩ s.heap [] hP hD va_S.rf
    (fun v d1 u H locs cells slots pc ls hd1 hdg hq hP hD hS hc hs => W.endD hd1 (W.widen hc hs (W.zret (v := v) (ty := .boolean) hx hb hr (by rcases hz v u hq with rfl | rfl <;> rfl) (fun t ht hW => ⟨⟨v, u, rfl, hq, by rw [ht]; exact hP, va_K.moved hW.alike hK, hD⟩, hS.F ht⟩) hS.2.2 hdg hlocks))) _ hl
end
section
/-! calls: the callee's world in front of the caller's -/
section CPC
variable {p : Program} {l : Launch} {e : Env} {R : Room} {s : State} {m : MethodId} {args : Array Value} {below : List Frame} {meth : Method} {c : Code} {H : Heap} {locs : List Loc} {cells slots : Nat} {Q : State → Prop}
variable {pc : Nat} {ls : Array Slot} {cc : ByteArray} {D : va_G} {tysW tys : List (ClassId × FieldType)} {A : Nat → Prop} {S : Type} {y : MethodName} {bytes : ByteArray} {maxL nL n index : Nat} {ret : Option FieldType} {wsy : List Cond} {rm : Room} {Ts : List Cond} {own C : String} {b : Addr} {As rest st : List Value} {wc wr : va_W} {sa1 sa2 : Nat} {ex : String → Prop} {κ : Kx} {d0 : Drawn}
theorem cp_pre (hK : va_K D vwCl tysW s) (hP : va_P D vwCl (wc ++ wr) H) (hD : va_D A (wc ++ wr)) (ist : List Nat) (hty : ist.filterMap (fun i => tysW[i]?) = tys) {Bs : List Value} : PreS s H (ct_Pc D Bs wc tys H.size) Bs :=
  ⟨ct_frameblind, fun U hU hW => ⟨rfl, by rw [hU], by rw [hU]; exact gp_left hP, va_K.moved hW.alike (hK.sub ist hty), (gp_leftD hD).weaken (fun _ _ _ _ => trivial)⟩⟩
theorem cpx_pre (hK : va_K D vwCl tysW s) (hP : va_P D vwCl (wc ++ wr) H) (hD : va_D A (wc ++ wr)) (hS : va_S A s.heap H locs) (hA : ∀ q : Nat, s.heap.size ≤ q → A q) (hT : ct_T sa1 sa2 A s s.heap) (ist : List Nat) (hty : ist.filterMap (fun i => tysW[i]?) = tys) {Bs : List Value} : PreS s H (cx_Pc D Bs wc tys sa1 sa2 H.size) Bs :=
  ⟨cx_frameblind, fun U hU hW => ⟨rfl, by rw [hU], by rw [hU]; exact gp_left hP, va_K.moved hW.alike (hK.sub ist hty), (gp_leftD hD).weaken (fun _ _ _ _ => trivial), by
    rw [hU]
    exact (((hT.kept (fun a h1 h2 => hS.2.1 a h1 h2)).narrow (gp_in hD hS hA)).warm hW)⟩⟩
theorem cpg_pre (hK : va_K D vwCl tysW s) (hP : va_P D vwCl (wc ++ wr) H) (hD : va_D A (wc ++ wr)) (hS : va_S A s.heap H locs) (hA : ∀ q : Nat, s.heap.size ≤ q → A q) (hX : cg_X κ A s s.heap) (ist : List Nat) (hty : ist.filterMap (fun i => tysW[i]?) = tys) {Bs : List Value} : PreS s H (cg_Pc D Bs wc tys κ H.size) Bs :=
  ⟨cg_frameblind, fun U hU hW => ⟨rfl, by rw [hU], by rw [hU]; exact gp_left hP, va_K.moved hW.alike (hK.sub ist hty), (gp_leftD hD).weaken (fun _ _ _ _ => trivial), by
    rw [hU]
    exact (((hX.kept hS.1 (fun a h1 h2 => hS.2.1 a h1 h2)).narrow (gp_in hD hS hA)).warm hW)⟩⟩
theorem cp_Vi {post : Int32 → S → Prop} {wo : S → va_W} (F : CallFix p m c cc nL s args Ts own) (hC : ct_i l D y wsy rm (.ref b :: As) wc tys post wo) (cw : CallW R s args own C index y bytes maxL ret wsy rm rm.cells rm.slots n) (hK : va_K D vwCl tysW s) (hP : va_P D vwCl (wc ++ wr) H) (hD : va_D A (wc ++ wr)) (hS : va_S A s.heap H locs) (hA : ∀ q : Nat, s.heap.size ≤ q → A q)
    (ist : List Nat) (hty : ist.filterMap (fun i => tysW[i]?) = tys) (hrecv : ∃ cell : Cell, H[b]? = some cell ∧ cell.vm.isStatics = false ∧ s.vm.findClass C = some cell.cls) (hn : As.length = n) (hsize : ls.size = nL) (hst : st = As.reverse ++ .ref b :: rest) (hroom : (rest.map fun v => v.category).sum ≤ 8) {cells1 slots1 : Nat} (hc9 : cells + rm.cells = cells1) (hs9 : slots + rm.slots = slots1) (hf : cells1 ≤ R.cells ∧ slots1 ≤ R.slots) (hdg : decode cc pc = .ok (.invokevirtual index, 3))
    (kk : ∀ (r : Int32) (u : S) (H1 : Heap) (locs1 : List Loc), post r u → va_P D vwCl (wo u ++ wr) H1 → va_D A (wo u ++ wr) → va_S A s.heap H1 locs1 → W p l e R s m args below meth c H1 locs1 cells1 slots1 Q (F0 m (pc + 3) ls (.int r :: rest))) :
    W p l e R s m args below meth c H locs cells slots Q (F0 m pc ls st) := by
  subst hst
  subst hc9
  subst hs9
  have hp := cp_pre (Bs := (.ref b :: As)) hK hP hD ist hty
  refine va_calli (va_runV (As := As) (rest := rest) F (hC H.size) cw ⟨hp.1, hrecv, hp.2⟩ rfl hn hsize rfl (lv_room hroom) hdg hf) hS (fun q _ h => gp_in hD hS hA q h) (gp_in hD hS hA) (fun r u t H1 locs1 ht hvm hw hB hz1 hk1 hS1 => ?_)
  obtain ⟨hP1, hK1, hD1⟩ := hB
  rw [ht] at hP1
  obtain ⟨a1, a2⟩ := gp_join hP hD hS hA hk1 hP1 hD1
  exact kk r u H1 locs1 hw a1 a2 hS1
theorem cp_Si {post : Int32 → S → Prop} {wo : S → va_W} (F : CallFix p m c cc nL s args Ts own) (hC : ct_i l D y wsy rm (As) wc tys post wo) (cw : CallB R s args own index y bytes maxL ret wsy rm rm.cells rm.slots n ∧ (Cond.static y).before args s = true) (hK : va_K D vwCl tysW s) (hP : va_P D vwCl (wc ++ wr) H) (hD : va_D A (wc ++ wr)) (hS : va_S A s.heap H locs) (hA : ∀ q : Nat, s.heap.size ≤ q → A q)
    (ist : List Nat) (hty : ist.filterMap (fun i => tysW[i]?) = tys) (hn : As.length = n) (hsize : ls.size = nL) (hst : st = As.reverse ++ rest) (hroom : (rest.map fun v => v.category).sum ≤ 8) {cells1 slots1 : Nat} (hc9 : cells + rm.cells = cells1) (hs9 : slots + rm.slots = slots1) (hf : cells1 ≤ R.cells ∧ slots1 ≤ R.slots) (hdg : decode cc pc = .ok (.invokestatic index, 3))
    (kk : ∀ (r : Int32) (u : S) (H1 : Heap) (locs1 : List Loc), post r u → va_P D vwCl (wo u ++ wr) H1 → va_D A (wo u ++ wr) → va_S A s.heap H1 locs1 → W p l e R s m args below meth c H1 locs1 cells1 slots1 Q (F0 m (pc + 3) ls (.int r :: rest))) :
    W p l e R s m args below meth c H locs cells slots Q (F0 m pc ls st) := by
  subst hst
  subst hc9
  subst hs9
  have hp := cp_pre (Bs := (As)) hK hP hD ist hty
  refine va_calli (va_runS (As := As) (rest := rest) F (hC H.size) cw ⟨hp.1, hp.2⟩ rfl hn hsize rfl (lv_room hroom) hdg hf) hS (fun q _ h => gp_in hD hS hA q h) (gp_in hD hS hA) (fun r u t H1 locs1 ht hvm hw hB hz1 hk1 hS1 => ?_)
  obtain ⟨hP1, hK1, hD1⟩ := hB
  rw [ht] at hP1
  obtain ⟨a1, a2⟩ := gp_join hP hD hS hA hk1 hP1 hD1
  exact kk r u H1 locs1 hw a1 a2 hS1
theorem cp_Iv {post : S → Prop} {wo : S → va_W} (F : CallFix p m c cc nL s args Ts own) (hC : ct_v l D y wsy rm (.ref b :: As) wc tys post wo) (cw : CallB R s args own index y bytes maxL none wsy rm rm.cells rm.slots n ∧ y.name = "<init>" ∧ (Cond.instanceMethod y).before args s = true) (hK : va_K D vwCl tysW s) (hP : va_P D vwCl (wc ++ wr) H) (hD : va_D A (wc ++ wr)) (hS : va_S A s.heap H locs) (hA : ∀ q : Nat, s.heap.size ≤ q → A q)
    (ist : List Nat) (hty : ist.filterMap (fun i => tysW[i]?) = tys) (hn : As.length = n) (hsize : ls.size = nL) (hst : st = As.reverse ++ .ref b :: rest) (hroom : (rest.map fun v => v.category).sum ≤ 8) {cells1 slots1 : Nat} (hc9 : cells + rm.cells = cells1) (hs9 : slots + rm.slots = slots1) (hf : cells1 ≤ R.cells ∧ slots1 ≤ R.slots) (hdg : decode cc pc = .ok (.invokespecial index, 3))
    (kk : ∀ (u : S) (H1 : Heap) (locs1 : List Loc), post u → va_P D vwCl (wo u ++ wr) H1 → va_D A (wo u ++ wr) → va_S A s.heap H1 locs1 → W p l e R s m args below meth c H1 locs1 cells1 slots1 Q (F0 m (pc + 3) ls (rest))) :
    W p l e R s m args below meth c H locs cells slots Q (F0 m pc ls st) := by
  subst hst
  subst hc9
  subst hs9
  have hp := cp_pre (Bs := (.ref b :: As)) hK hP hD ist hty
  refine va_callv (va_runI (As := As) (rest := rest) F (hC H.size) cw ⟨hp.1, hp.2⟩ rfl hn hsize rfl (lv_room hroom) hdg hf) hS (fun q _ h => gp_in hD hS hA q h) (gp_in hD hS hA) (fun u t H1 locs1 ht hvm hw hB hz1 hk1 hS1 => ?_)
  obtain ⟨hP1, hK1, hD1⟩ := hB
  rw [ht] at hP1
  obtain ⟨a1, a2⟩ := gp_join hP hD hS hA hk1 hP1 hD1
  exact kk u H1 locs1 hw a1 a2 hS1
theorem cpx_Vi {post : Int32 → S → Prop} {wo : S → va_W} (F : CallFix p m c cc nL s args Ts own) (hC : cx_i l D y wsy rm (.ref b :: As) wc tys sa1 sa2 post wo ex) (cw : CallW R s args own C index y bytes maxL ret wsy rm rm.cells rm.slots n) (hK : va_K D vwCl tysW s) (hP : va_P D vwCl (wc ++ wr) H) (hD : va_D A (wc ++ wr)) (hS : va_S A s.heap H locs) (hA : ∀ q : Nat, s.heap.size ≤ q → A q) (hT : ct_T sa1 sa2 A s s.heap) (hex : ∀ E : String, ¬ ex E)
    (ist : List Nat) (hty : ist.filterMap (fun i => tysW[i]?) = tys) (hrecv : ∃ cell : Cell, H[b]? = some cell ∧ cell.vm.isStatics = false ∧ s.vm.findClass C = some cell.cls) (hn : As.length = n) (hsize : ls.size = nL) (hst : st = As.reverse ++ .ref b :: rest) (hroom : (rest.map fun v => v.category).sum ≤ 8) {cells1 slots1 : Nat} (hc9 : cells + rm.cells = cells1) (hs9 : slots + rm.slots = slots1) (hf : cells1 ≤ R.cells ∧ slots1 ≤ R.slots) (hdg : decode cc pc = .ok (.invokevirtual index, 3))
    (kk : ∀ (r : Int32) (u : S) (H1 : Heap) (locs1 : List Loc), post r u → va_P D vwCl (wo u ++ wr) H1 → va_D A (wo u ++ wr) → va_S A s.heap H1 locs1 → W p l e R s m args below meth c H1 locs1 cells1 slots1 Q (F0 m (pc + 3) ls (.int r :: rest))) :
    W p l e R s m args below meth c H locs cells slots Q (F0 m pc ls st) := by
  subst hst
  subst hc9
  subst hs9
  have hp := cpx_pre (Bs := (.ref b :: As)) hK hP hD hS hA hT ist hty
  refine vx_calli (vx_runV (As := As) (rest := rest) F (hC H.size) cw ⟨hp.1, hrecv, hp.2⟩ rfl hn hsize rfl (lv_room hroom) hdg hf) hS (fun q _ h => gp_in hD hS hA q h) (gp_in hD hS hA) (fun q _ h => gp_in hD hS hA q h) (fun E ce q9 u t H1 locs1 ht hvm hw hB hz1 hk1 hS1 hce hcv hcl => absurd hB.1 (hex E)) (fun r u t H1 locs1 ht hvm hw hB hz1 hk1 hS1 => ?_)
  obtain ⟨hP1, hK1, hD1⟩ := hB
  rw [ht] at hP1
  obtain ⟨a1, a2⟩ := gp_join hP hD hS hA hk1 hP1 hD1
  exact kk r u H1 locs1 hw a1 a2 hS1
theorem cpg_Vi {post : Int32 → S → Prop} {wo : S → va_W} (F : CallFix p m c cc nL s args Ts own) (hC : cg_i l D y wsy rm (.ref b :: As) wc tys κ post wo) (cw : CallW R s args own C index y bytes maxL ret wsy rm rm.cells rm.slots n) (hK : va_K D vwCl tysW s) (hP : va_P D vwCl (wc ++ wr) H) (hD : va_D A (wc ++ wr)) (hS : va_S A s.heap H locs) (hA : ∀ q : Nat, s.heap.size ≤ q → A q) (hX : cg_X κ A s s.heap)
    (ist : List Nat) (hty : ist.filterMap (fun i => tysW[i]?) = tys) (hrecv : ∃ cell : Cell, H[b]? = some cell ∧ cell.vm.isStatics = false ∧ s.vm.findClass C = some cell.cls) (hn : As.length = n) (hsize : ls.size = nL) (hst : st = As.reverse ++ .ref b :: rest) (hroom : (rest.map fun v => v.category).sum ≤ 8) {cells1 slots1 : Nat} (hc9 : cells + rm.cells = cells1) (hs9 : slots + rm.slots = slots1) (hf : cells1 ≤ R.cells ∧ slots1 ≤ R.slots) (hdg : decode cc pc = .ok (.invokevirtual index, 3))
    (kk : ∀ (r : Int32) (u : S) (H1 : Heap) (locs1 : List Loc), post r u → va_P D vwCl (wo u ++ wr) H1 → va_D A (wo u ++ wr) → va_S A s.heap H1 locs1 → W p l e R s m args below meth c H1 locs1 cells1 slots1 Q (F0 m (pc + 3) ls (.int r :: rest))) :
    W p l e R s m args below meth c H locs cells slots Q (F0 m pc ls st) := by
  subst hst
  subst hc9
  subst hs9
  have hp := cpg_pre (Bs := (.ref b :: As)) hK hP hD hS hA hX ist hty
  refine va_calli (va_runV (As := As) (rest := rest) F (hC H.size) cw ⟨hp.1, hrecv, hp.2⟩ rfl hn hsize rfl (lv_room hroom) hdg hf) hS (fun q _ h => gp_in hD hS hA q h) (gp_in hD hS hA) (fun r u t H1 locs1 ht hvm hw hB hz1 hk1 hS1 => ?_)
  obtain ⟨hP1, hK1, hD1⟩ := hB
  rw [ht] at hP1
  obtain ⟨a1, a2⟩ := gp_join hP hD hS hA hk1 hP1 hD1
  exact kk r u H1 locs1 hw a1 a2 hS1
theorem cpg_Si {post : Int32 → S → Prop} {wo : S → va_W} (F : CallFix p m c cc nL s args Ts own) (hC : cg_i l D y wsy rm (As) wc tys κ post wo) (cw : CallB R s args own index y bytes maxL ret wsy rm rm.cells rm.slots n ∧ (Cond.static y).before args s = true) (hK : va_K D vwCl tysW s) (hP : va_P D vwCl (wc ++ wr) H) (hD : va_D A (wc ++ wr)) (hS : va_S A s.heap H locs) (hA : ∀ q : Nat, s.heap.size ≤ q → A q) (hX : cg_X κ A s s.heap)
    (ist : List Nat) (hty : ist.filterMap (fun i => tysW[i]?) = tys) (hn : As.length = n) (hsize : ls.size = nL) (hst : st = As.reverse ++ rest) (hroom : (rest.map fun v => v.category).sum ≤ 8) {cells1 slots1 : Nat} (hc9 : cells + rm.cells = cells1) (hs9 : slots + rm.slots = slots1) (hf : cells1 ≤ R.cells ∧ slots1 ≤ R.slots) (hdg : decode cc pc = .ok (.invokestatic index, 3))
    (kk : ∀ (r : Int32) (u : S) (H1 : Heap) (locs1 : List Loc), post r u → va_P D vwCl (wo u ++ wr) H1 → va_D A (wo u ++ wr) → va_S A s.heap H1 locs1 → W p l e R s m args below meth c H1 locs1 cells1 slots1 Q (F0 m (pc + 3) ls (.int r :: rest))) :
    W p l e R s m args below meth c H locs cells slots Q (F0 m pc ls st) := by
  subst hst
  subst hc9
  subst hs9
  have hp := cpg_pre (Bs := (As)) hK hP hD hS hA hX ist hty
  refine va_calli (va_runS (As := As) (rest := rest) F (hC H.size) cw ⟨hp.1, hp.2⟩ rfl hn hsize rfl (lv_room hroom) hdg hf) hS (fun q _ h => gp_in hD hS hA q h) (gp_in hD hS hA) (fun r u t H1 locs1 ht hvm hw hB hz1 hk1 hS1 => ?_)
  obtain ⟨hP1, hK1, hD1⟩ := hB
  rw [ht] at hP1
  obtain ⟨a1, a2⟩ := gp_join hP hD hS hA hk1 hP1 hD1
  exact kk r u H1 locs1 hw a1 a2 hS1
theorem cpg_Sr {post : S → Prop} {wo : S → Nat → va_W} (F : CallFix p m c cc nL s args Ts own) (hC : cg_r l D y wsy rm (As) wc tys κ post wo) (cw : CallB R s args own index y bytes maxL ret wsy rm rm.cells rm.slots n ∧ (Cond.static y).before args s = true) (hK : va_K D vwCl tysW s) (hP : va_P D vwCl (wc ++ wr) H) (hD : va_D A (wc ++ wr)) (hS : va_S A s.heap H locs) (hA : ∀ q : Nat, s.heap.size ≤ q → A q) (hX : cg_X κ A s s.heap)
    (ist : List Nat) (hty : ist.filterMap (fun i => tysW[i]?) = tys) (hn : As.length = n) (hsize : ls.size = nL) (hst : st = As.reverse ++ rest) (hroom : (rest.map fun v => v.category).sum ≤ 8) {cells1 slots1 : Nat} (hc9 : cells + rm.cells = cells1) (hs9 : slots + rm.slots = slots1) (hf : cells1 ≤ R.cells ∧ slots1 ≤ R.slots) (hdg : decode cc pc = .ok (.invokestatic index, 3))
    (kk : ∀ (u : S) (r : Nat) (H1 : Heap) (locs1 : List Loc), post u → va_P D vwCl (wo u r ++ wr) H1 → va_D A (wo u r ++ wr) → va_S A s.heap H1 locs1 → W p l e R s m args below meth c H1 locs1 cells1 slots1 Q (F0 m (pc + 3) ls (.ref r :: rest))) :
    W p l e R s m args below meth c H locs cells slots Q (F0 m pc ls st) := by
  subst hst
  subst hc9
  subst hs9
  have hp := cpg_pre (Bs := (As)) hK hP hD hS hA hX ist hty
  refine va_callr (va_runS (As := As) (rest := rest) F (hC H.size) cw ⟨hp.1, hp.2⟩ rfl hn hsize rfl (lv_room hroom) hdg hf) hS (fun q _ h => gp_in hD hS hA q h) (gp_in hD hS hA) (fun u r t H1 locs1 ht hvm hw hB hz1 hk1 hS1 => ?_)
  obtain ⟨hP1, hK1, hD1⟩ := hB
  rw [ht] at hP1
  obtain ⟨a1, a2⟩ := gp_join hP hD hS hA hk1 hP1 hD1
  exact kk u r H1 locs1 hw a1 a2 hS1
theorem cpg_Iv {post : S → Prop} {wo : S → va_W} (F : CallFix p m c cc nL s args Ts own) (hC : cg_v l D y wsy rm (.ref b :: As) wc tys κ post wo) (cw : CallB R s args own index y bytes maxL none wsy rm rm.cells rm.slots n ∧ y.name = "<init>" ∧ (Cond.instanceMethod y).before args s = true) (hK : va_K D vwCl tysW s) (hP : va_P D vwCl (wc ++ wr) H) (hD : va_D A (wc ++ wr)) (hS : va_S A s.heap H locs) (hA : ∀ q : Nat, s.heap.size ≤ q → A q) (hX : cg_X κ A s s.heap)
    (ist : List Nat) (hty : ist.filterMap (fun i => tysW[i]?) = tys) (hn : As.length = n) (hsize : ls.size = nL) (hst : st = As.reverse ++ .ref b :: rest) (hroom : (rest.map fun v => v.category).sum ≤ 8) {cells1 slots1 : Nat} (hc9 : cells + rm.cells = cells1) (hs9 : slots + rm.slots = slots1) (hf : cells1 ≤ R.cells ∧ slots1 ≤ R.slots) (hdg : decode cc pc = .ok (.invokespecial index, 3))
    (kk : ∀ (u : S) (H1 : Heap) (locs1 : List Loc), post u → va_P D vwCl (wo u ++ wr) H1 → va_D A (wo u ++ wr) → va_S A s.heap H1 locs1 → W p l e R s m args below meth c H1 locs1 cells1 slots1 Q (F0 m (pc + 3) ls (rest))) :
    W p l e R s m args below meth c H locs cells slots Q (F0 m pc ls st) := by
  subst hst
  subst hc9
  subst hs9
  have hp := cpg_pre (Bs := (.ref b :: As)) hK hP hD hS hA hX ist hty
  refine va_callv (va_runI (As := As) (rest := rest) F (hC H.size) cw ⟨hp.1, hp.2⟩ rfl hn hsize rfl (lv_room hroom) hdg hf) hS (fun q _ h => gp_in hD hS hA q h) (gp_in hD hS hA) (fun u t H1 locs1 ht hvm hw hB hz1 hk1 hS1 => ?_)
  obtain ⟨hP1, hK1, hD1⟩ := hB
  rw [ht] at hP1
  obtain ⟨a1, a2⟩ := gp_join hP hD hS hA hk1 hP1 hD1
  exact kk u H1 locs1 hw a1 a2 hS1
theorem cp_Vd {post : UInt64 → S → Prop} {wo : S → va_W} (hd0 : s.drawn.sameBut d0 lw_cs) (F : CallFix p m c cc nL (s.setDrawn d0) args Ts own) (hC : ct_d l D y wsy rm (.ref b :: As) wc tys post wo) (cw : CallW R (s.setDrawn d0) args own C index y bytes maxL ret wsy rm rm.cells rm.slots n) (hK : va_K D vwCl tysW (s.setDrawn d0)) (hP : va_P D vwCl (wc ++ wr) H) (hD : va_D A (wc ++ wr)) (hS : va_S A s.heap H locs) (hA : ∀ q : Nat, s.heap.size ≤ q → A q)
    (ist : List Nat) (hty : ist.filterMap (fun i => tysW[i]?) = tys) (hrecv : ∃ cell : Cell, H[b]? = some cell ∧ cell.vm.isStatics = false ∧ (s.setDrawn d0).vm.findClass C = some cell.cls) (hn : As.length = n) (hsize : ls.size = nL) (hst : st = As.reverse ++ .ref b :: rest) (hroom : (rest.map fun v => v.category).sum ≤ 8) {cells1 slots1 : Nat} (hc9 : cells + rm.cells = cells1) (hs9 : slots + rm.slots = slots1) (hf : cells1 ≤ R.cells ∧ slots1 ≤ R.slots) (hdg : decode cc pc = .ok (.invokevirtual index, 3))
    (kk : ∀ (r : UInt64) (u : S) (d1 : Drawn) (H1 : Heap) (locs1 : List Loc), s.drawn.sameBut d1 lw_cs → post r u → va_P D vwCl (wo u ++ wr) H1 → va_D A (wo u ++ wr) → va_S A s.heap H1 locs1 → W p l e R (s.setDrawn d1) m args below meth c H1 locs1 cells1 slots1 Q (F0 m (pc + 3) ls (.double r :: rest))) :
    W p l e R (s.setDrawn d0) m args below meth c H locs cells slots Q (F0 m pc ls st) := by
  subst hst
  subst hc9
  subst hs9
  have hp := cp_pre (Bs := (.ref b :: As)) hK hP hD ist hty
  refine va_calldD hd0 (va_runV_D (As := As) (rest := rest) F (hC H.size) cw ⟨hp.1, hrecv, hp.2⟩ rfl hn hsize rfl (lv_room hroom) hdg hf) hS (fun q _ h => gp_in hD hS hA q h) (gp_in hD hS hA) (fun r u t H1 locs1 ht hvm hw hB hz1 hk1 hS1 d1 hd1 => ?_)
  obtain ⟨hP1, hK1, hD1⟩ := hB
  rw [ht] at hP1
  obtain ⟨a1, a2⟩ := gp_join hP hD hS hA hk1 hP1 hD1
  exact kk r u d1 H1 locs1 hd1 hw a1 a2 hS1
theorem cpg_Vd {post : Int32 → S → Prop} {wo : S → va_W} (hd0 : s.drawn.sameBut d0 lw_cs) (F : CallFix p m c cc nL (s.setDrawn d0) args Ts own) (hC : cg_d l D y wsy rm (.ref b :: As) wc tys κ post wo) (cw : CallW R (s.setDrawn d0) args own C index y bytes maxL ret wsy rm rm.cells rm.slots n) (hK : va_K D vwCl tysW (s.setDrawn d0)) (hP : va_P D vwCl (wc ++ wr) H) (hD : va_D A (wc ++ wr)) (hS : va_S A s.heap H locs) (hA : ∀ q : Nat, s.heap.size ≤ q → A q) (hX : cg_X κ A (s.setDrawn d0) s.heap)
    (ist : List Nat) (hty : ist.filterMap (fun i => tysW[i]?) = tys) (hrecv : ∃ cell : Cell, H[b]? = some cell ∧ cell.vm.isStatics = false ∧ (s.setDrawn d0).vm.findClass C = some cell.cls) (hn : As.length = n) (hsize : ls.size = nL) (hst : st = As.reverse ++ .ref b :: rest) (hroom : (rest.map fun v => v.category).sum ≤ 8) {cells1 slots1 : Nat} (hc9 : cells + rm.cells = cells1) (hs9 : slots + rm.slots = slots1) (hf : cells1 ≤ R.cells ∧ slots1 ≤ R.slots) (hdg : decode cc pc = .ok (.invokevirtual index, 3))
    (kk : ∀ (r : Int32) (u : S) (d1 : Drawn) (H1 : Heap) (locs1 : List Loc), s.drawn.sameBut d1 lw_cs → post r u → va_P D vwCl (wo u ++ wr) H1 → va_D A (wo u ++ wr) → va_S A s.heap H1 locs1 → W p l e R (s.setDrawn d1) m args below meth c H1 locs1 cells1 slots1 Q (F0 m (pc + 3) ls (.int r :: rest))) :
    W p l e R (s.setDrawn d0) m args below meth c H locs cells slots Q (F0 m pc ls st) := by
  subst hst
  subst hc9
  subst hs9
  have hp := cpg_pre (Bs := (.ref b :: As)) hK hP hD hS hA hX ist hty
  refine va_calliD hd0 (va_runV_D (As := As) (rest := rest) F (hC H.size) cw ⟨hp.1, hrecv, hp.2⟩ rfl hn hsize rfl (lv_room hroom) hdg hf) hS (fun q _ h => gp_in hD hS hA q h) (gp_in hD hS hA) (fun r u t H1 locs1 ht hvm hw hB hz1 hk1 hS1 d1 hd1 => ?_)
  obtain ⟨hP1, hK1, hD1⟩ := hB
  rw [ht] at hP1
  obtain ⟨a1, a2⟩ := gp_join hP hD hS hA hk1 hP1 hD1
  exact kk r u d1 H1 locs1 hd1 hw a1 a2 hS1
end CPC
end
