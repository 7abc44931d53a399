/-! columns: an int[x][y] of Java over a flat function, cell 8 * y + x -/
def gf (f : Nat → Int32) (x : Nat) : Nat → Int32 := fun y => f (8 * y + x)
def gR (n : Nat) (r : Nat → Nat) : Nat → Option Nat := fun i => if i < n then some (r i) else none
theorem gR_at {n : Nat} {r : Nat → Nat} {x : Nat} (hx : x < n) : gR n r x = some (r x) := if_pos hx
abbrev grL (r : Nat → Nat) (cI : ClassId) (f : Nat → Int32) : va_W := [(r 0, .inl (cI, 8, .inl (gf f 0))), (r 1, .inl (cI, 8, .inl (gf f 1))), (r 2, .inl (cI, 8, .inl (gf f 2))), (r 3, .inl (cI, 8, .inl (gf f 3))), (r 4, .inl (cI, 8, .inl (gf f 4))), (r 5, .inl (cI, 8, .inl (gf f 5))), (r 6, .inl (cI, 8, .inl (gf f 6))), (r 7, .inl (cI, 8, .inl (gf f 7)))]
abbrev gr (a : Nat) (r : Nat → Nat) (cI cJ : ClassId) (f : Nat → Int32) : va_W := (a, .inl (cJ, 8, rf5 (gR 8 r))) :: grL r cI f
theorem grL_at {r : Nat → Nat} {cI : ClassId} {f : Nat → Int32} {x : Nat} (hx : x < 8) : (grL r cI f)[x]? = some (r x, .inl (cI, 8, .inl (gf f x))) := by
  rcases (show x = 0 ∨ x = 1 ∨ x = 2 ∨ x = 3 ∨ x = 4 ∨ x = 5 ∨ x = 6 ∨ x = 7 by omega) with rfl | rfl | rfl | rfl | rfl | rfl | rfl | rfl <;> rfl
theorem gf_upd {f : Nat → Int32} {x y i : Nat} {v : Int32} (hx : x < 8) (hi : i < 8) : gf (upd f (8 * y + x) v) i = if i = x then upd (gf f x) y v else gf f i := by
  funext j
  unfold gf upd
  by_cases e : i = x
  · subst e
    rw [if_pos rfl]
    by_cases e2 : j = y
    · subst e2
      rw [if_pos rfl, if_pos rfl]
    · rw [if_neg e2, if_neg (by omega)]
  · rw [if_neg e, if_neg (by omega)]
theorem grL_set {r : Nat → Nat} {cI : ClassId} {f : Nat → Int32} {x y : Nat} {v : Int32} (hx : x < 8) : (grL r cI f).set x (r x, .inl (cI, 8, .inl (upd (gf f x) y v))) = grL r cI (upd f (8 * y + x) v) := by
  apply List.ext_getElem?
  intro i
  rw [List.getElem?_set]
  by_cases hi : i < 8
  · rw [grL_at hi, grL_at hi, gf_upd hx hi]
    by_cases e : x = i
    · subst e
      rw [if_pos rfl, if_pos rfl]
      have : x < (grL r cI f).length := hx
      rw [if_pos this]
    · have e' : ¬ i = x := fun h => e h.symm
      rw [if_neg e, if_neg e']
  · have e : ¬ x = i := by omega
    rw [if_neg e, List.getElem?_eq_none (by show 8 ≤ i; omega), List.getElem?_eq_none (by show 8 ≤ i; omega)]
theorem gr_row {ws : va_W} {q : Nat} {r : Nat → Nat} {cI : ClassId} {f : Nat → Int32} (h1 : ws.drop q = grL r cI f ++ ws.drop (q + 8)) {x : Nat} (hx : x < 8) : ws[q + x]? = some (r x, .inl (cI, 8, .inl (gf f x))) := by
  rw [← List.getElem?_drop, h1, List.getElem?_append_left (show x < (grL r cI f).length from hx), grL_at hx]
theorem gr_set {ws ws1 : va_W} {q : Nat} {r : Nat → Nat} {cI : ClassId} {f : Nat → Int32} {x y c : Nat} {v : Int32} (h1 : ws.drop q = grL r cI f ++ ws.drop (q + 8)) (h2 : ws1 = ws.take q ++ (grL r cI (upd f c v) ++ ws.drop (q + 8))) (hx : x < 8) (hc : 8 * y + x = c) : ws.set (q + x) (r x, .inl (cI, 8, .inl (upd (gf f x) y v))) = ws1 := by
  subst hc
  rw [h2, ← grL_set hx]
  generalize (r x, (.inl (cI, 8, .inl (upd (gf f x) y v)) : va_E)) = E
  have hq : q ≤ ws.length := by
    apply Classical.byContradiction
    intro hn
    have e : ws.drop q = [] := List.drop_eq_nil_iff.mpr (by omega)
    rw [e] at h1
    cases h1
  have hl : (ws.take q).length = q := by rw [List.length_take]; omega
  have e : ws.set (q + x) E = (ws.take q ++ ws.drop q).set (q + x) E := by rw [List.take_append_drop]
  rw [e, List.set_append, if_neg (by omega), hl, h1]
  have e2 : q + x - q = x := by omega
  rw [e2, List.set_append, if_pos (show x < (grL r cI f).length from hx)]
/-- a grid's numbers beyond its cells don't matter -/
theorem gr_ext {D : va_G} {cl : List vw_C} {A : Nat → Prop} {H : Heap} {ws ws1 : va_W} {q : Nat} {r : Nat → Nat} {cI : ClassId} {f g : Nat → Int32} (hP : va_P D cl ws H) (hD : va_D A ws) (h1 : ws.drop q = grL r cI f ++ ws.drop (q + 8)) (h2 : ws1 = ws.take q ++ (grL r cI g ++ ws.drop (q + 8))) (h : ∀ c : Nat, c < 64 → f c = g c) : va_P D cl ws1 H ∧ va_D A ws1 := by
  have hw : ws = ws.take q ++ (grL r cI f ++ ws.drop (q + 8)) := by rw [← h1, List.take_append_drop]
  have hlen : ws1.length = ws.length := by rw [h2, congrArg List.length hw]; simp only [List.length_append]; rfl
  have key : ∀ k : Nat, ws1[k]? = ws[k]? ∨ ∃ x : Nat, x < 8 ∧ ws[k]? = some (r x, .inl (cI, 8, .inl (gf f x))) ∧ ws1[k]? = some (r x, .inl (cI, 8, .inl (gf g x))) := by
    intro k
    generalize ws.take q = T at *
    generalize ws.drop (q + 8) = U at *
    subst h2
    by_cases h3 : k < T.length
    · left
      rw [hw, List.getElem?_append_left h3, List.getElem?_append_left h3]
    · by_cases h4 : k - T.length < 8
      · right
        refine ⟨k - T.length, h4, ?_, ?_⟩
        · rw [hw, List.getElem?_append_right (by omega), List.getElem?_append_left (show _ < (grL r cI f).length from h4), grL_at h4]
        · rw [List.getElem?_append_right (by omega), List.getElem?_append_left (show _ < (grL r cI g).length from h4), grL_at h4]
      · left
        have z1 : (T ++ (grL r cI g ++ U))[k]? = U[k - T.length - 8]? := by
          rw [List.getElem?_append_right (by omega)]
          exact List.getElem?_append_right (show 8 ≤ k - T.length by omega)
        have z2 : (T ++ (grL r cI f ++ U))[k]? = U[k - T.length - 8]? := by
          rw [List.getElem?_append_right (by omega)]
          exact List.getElem?_append_right (show 8 ≤ k - T.length by omega)
        rw [z1, hw, z2]
  have fst : ∀ (k : Nat) (p : Nat × va_E), ws1[k]? = some p → ∃ p', ws[k]? = some p' ∧ p'.1 = p.1 := by
    intro k p hp
    rcases key k with h3 | ⟨x, hx, h3, h4⟩
    · exact ⟨p, by rw [← h3]; exact hp, rfl⟩
    · rw [h4] at hp
      cases hp
      exact ⟨_, h3, rfl⟩
  refine ⟨fun k p hp => ?_, fun i j p p' hi hj e => ?_, fun k p hp => ?_⟩
  · rcases key k with h3 | ⟨x, hx, h3, h4⟩
    · exact hP k p (by rw [← h3]; exact hp)
    · rw [h4] at hp
      cases hp
      have h5 := hP k _ h3
      show H[r x]? = some (vp_cell cI (8, .inl (gf g x)))
      rw [← ct_arr (cA := cI) (n := 8) (f := gf f x) (g := gf g x) (fun j hj => h (8 * j + x) (by omega))]
      exact h5
  · obtain ⟨a, ha, ea⟩ := fst i p hi
    obtain ⟨b, hb, eb⟩ := fst j p' hj
    exact hD.1 i j a b ha hb (ea.trans (e.trans eb.symm))
  · obtain ⟨a, ha, ea⟩ := fst k p hp
    rw [← ea]
    exact hD.2 k a ha
section GRW
variable {p : Program} {l : Launch} {e : Env} {R : Room} {s : State} {m : MethodId} {args : Array Value} {below : List Frame} {meth : Method} {c : Code} {H H0 : Heap} {locs : List Loc} {cells slots : Nat} {Q : State → Prop}
variable {pc : Nat} {ls : Array Slot} {rest : List Value} {cc : ByteArray} {D : va_G} {cl : List vw_C} {tys : List (ClassId × FieldType)} {A : Nat → Prop} {ws ws1 : va_W} {a : Nat} {cI cJ : ClassId} {r : Nat → Nat} {f : Nat → Int32}
theorem gr_aald (hexec : p.tables.exec = Jvm.exec) (hb : c.code = cc) (hK : va_K D cl tys s) (hP : va_P D cl ws H) (q0 t1 : Nat) {ty : FieldType} {n : Nat} (ha : ws[q0]? = some (a, .inl (cJ, n, rf5 (gR n r)))) (ht1 : tys[t1]? = some (cJ, .array ty)) (x : Nat) {i : Int32} (hi : i = nI x) (hx : x < n) (hn : n < 2 ^ 31) (hdg : decode cc pc = .ok (.aaload, 1))
    (kk : W p l e R s m args below meth c H locs cells slots Q (F0 m (pc + 1) ls (.ref (r x) :: rest))) : W p l e R s m args below meth c H locs cells slots Q (F0 m pc ls (.int i :: .ref a :: rest)) := by
  subst hi
  have hcl : (nI x).toNatClampNeg = x := nI_clamp (by omega)
  have e : va_rf (gR n r x) = .ref (r x) := by rw [gR_at hx]; rfl
  refine W.aald (v := .ref (r x)) (ty := .array ty) hexec hb (hP q0 _ ha) ((hK.2 t1 _ ht1).1 n (fun j => va_rf (gR n r j))) rfl (fun q => by cases q) ?_ ?_ rfl rfl hdg kk
  · show ¬ (nI x < 0 ∨ (arrV cJ n (fun j => va_rf (gR n r j))).slots.size ≤ (nI x).toNatClampNeg)
    rw [arrV_size, hcl]
    exact fun h => h.elim (nI_pos (by omega)) (fun h => absurd h (by omega))
  · show (arrV _ _ _).slots[_]? = _
    rw [hcl, arrV_read _ _ hx, e]
theorem gr_iald (hexec : p.tables.exec = Jvm.exec) (hb : c.code = cc) (hK : va_K D cl tys s) (hP : va_P D cl ws H) (q t0 : Nat) (h1 : ws.drop q = grL r cI f ++ ws.drop (q + 8)) (ht : tys[t0]? = some (cI, .int)) (x y k : Nat) (hx : x < 8) (hy : y < 8) (hk : 8 * y + x = k) {i v : Int32} (hi : i = nI y) (hv : f k = v) (hdg : decode cc pc = .ok (.iaload, 1))
    (kk : W p l e R s m args below meth c H locs cells slots Q (F0 m (pc + 1) ls (.int v :: rest))) : W p l e R s m args below meth c H locs cells slots Q (F0 m pc ls (.int i :: .ref (r x) :: rest)) := by
  subst hk
  exact ct_iald hexec hb hK hP (q + x) t0 (gr_row h1 hx) ht y hi hy (by decide) hv hdg kk
theorem gr_iast (hexec : p.tables.exec = Jvm.exec) (hb : c.code = cc) (hK : va_K D cl tys s) (hP : va_P D cl ws H) (hD : va_D A ws) (hS : va_S A H0 H locs) (q t0 : Nat) (h1 : ws.drop q = grL r cI f ++ ws.drop (q + 8)) (ht : tys[t0]? = some (cI, .int)) (x y k : Nat) (hx : x < 8) (hy : y < 8) (hk : 8 * y + x = k) {i v : Int32} (hi : i = nI y) {g : Nat → Int32} (hg : upd f k v = g) (h2 : ws1 = ws.take q ++ (grL r cI g ++ ws.drop (q + 8))) (hdg : decode cc pc = .ok (.iastore, 1))
    (kk : ∀ (H1 : Heap) (locs1 : List Loc), va_P D cl ws1 H1 → va_D A ws1 → va_S A H0 H1 locs1 → W p l e R s m args below meth c H1 locs1 cells slots Q (F0 m (pc + 1) ls rest)) : W p l e R s m args below meth c H locs cells slots Q (F0 m pc ls (.int v :: .int i :: .ref (r x) :: rest)) := by
  subst hg
  exact ct_iast hexec hb hK hP hD hS (q + x) t0 (gr_row h1 hx) ht y hi hy (by decide) rfl (gr_set h1 h2 hx hk) hdg kk
theorem gr_zald (hexec : p.tables.exec = Jvm.exec) (hb : c.code = cc) (hK : va_K D cl tys s) (hP : va_P D cl ws H) (q t0 : Nat) (h1 : ws.drop q = grL r cI f ++ ws.drop (q + 8)) (ht : tys[t0]? = some (cI, .boolean)) (x y k : Nat) (hx : x < 8) (hy : y < 8) (hk : 8 * y + x = k) {i v : Int32} (hi : i = nI y) (hv : f k = v) (hdg : decode cc pc = .ok (.baload, 1))
    (kk : W p l e R s m args below meth c H locs cells slots Q (F0 m (pc + 1) ls (.int v :: rest))) : W p l e R s m args below meth c H locs cells slots Q (F0 m pc ls (.int i :: .ref (r x) :: rest)) := by
  subst hk
  subst hi
  refine va_zald hexec hb hK hP (q + x) t0 (gr_row h1 hx) ht (vp_in_nI hy (by decide)) hdg ?_
  rw [nI_clamp (by omega)]
  have e : gf f x y = v := hv
  rw [e]
  exact kk
theorem gr_zast (hexec : p.tables.exec = Jvm.exec) (hb : c.code = cc) (hK : va_K D cl tys s) (hP : va_P D cl ws H) (hD : va_D A ws) (hS : va_S A H0 H locs) (q t0 : Nat) (h1 : ws.drop q = grL r cI f ++ ws.drop (q + 8)) (ht : tys[t0]? = some (cI, .boolean)) (x y k : Nat) (hx : x < 8) (hy : y < 8) (hk : 8 * y + x = k) {i : Int32} (hi : i = nI y) {g : Nat → Int32} (hg : upd f k 1 = g) (h2 : ws1 = ws.take q ++ (grL r cI g ++ ws.drop (q + 8))) (hdg : decode cc pc = .ok (.bastore, 1))
    (kk : ∀ (H1 : Heap) (locs1 : List Loc), va_P D cl ws1 H1 → va_D A ws1 → va_S A H0 H1 locs1 → W p l e R s m args below meth c H1 locs1 cells slots Q (F0 m (pc + 1) ls rest)) : W p l e R s m args below meth c H locs cells slots Q (F0 m pc ls (.int 1 :: .int i :: .ref (r x) :: rest)) := by
  subst hi
  subst hg
  refine va_zast hexec hb hK hP hD hS (q + x) t0 (gr_row h1 hx) ht (vp_in_nI hy (by decide)) hdg (fun H1 locs1 a1 a2 a3 => ?_)
  rw [nI_clamp (by omega)] at a1 a2
  have e : vp_nar .boolean 1 = 1 := by decide
  rw [e, gr_set h1 h2 hx hk] at a1 a2
  exact kk H1 locs1 a1 a2 a3
theorem gr_one {ty : FieldType} {cA : ClassId} (h1 : va_K D cl tys s) (t1 : Nat) (ht : tys[t1]? = some (cJ, .array ty)) (h2 : va_K D cl (tys ++ [(cA, .array ty)]) s) : cA = cJ := by
  have a1 : s.vm.findClass _ = some cJ := (h1.2 t1 _ ht).2
  have h3 : (tys ++ [(cA, FieldType.array ty)])[tys.length]? = some (cA, .array ty) := by simp
  have a2 : s.vm.findClass _ = some cA := (h2.2 tys.length _ h3).2
  exact Option.some.inj (a2.symm.trans a1)
/-- new int[N][K] -/
theorem gr_mna (hexec : p.tables.exec = Jvm.exec) (hb : c.code = cc) {own : String} {index : Nat} (hown : s.vm.findClass own = some m.cls) (hclink : (Cond.classLink own index "[[I").before args s = true) (hover : va_AOA .int s) (harr : (Cond.arrayClass .int).before args s = true) (t0 t1 : Nat) (ht0 : tys[t0]? = some (cI, .int)) (ht1 : tys[t1]? = some (cJ, .array .int))
    (hK : va_K D cl tys s) (hP : va_P D cl ws H) (hD : va_D A ws) (hS : va_S A H0 H locs) (hA : ∀ q, H0.size ≤ q → A q) {n k : Int32} (N K : Nat) (hn : n = nI N) (hk : k = nI K) (hN : N < 1000) (hM : K < 1000) {cells1 slots1 : Nat} (hc9 : cells + (1 + N) = cells1) (hs9 : slots + (N + N * K) = slots1) (hcells : cells1 ≤ R.cells) (hslots : slots1 ≤ R.slots) (hdg : decode cc pc = .ok (.multianewarray index 2, 4))
    (kk : ∀ (q : Nat) (r : Nat → Nat) (H1 : Heap), va_P D cl (ws ++ ((q, .inl (cJ, N, rf5 (gR N r))) :: (List.range N).map (fun i => (r i, .inl (cI, K, .inl (fun _ => 0)))))) H1 → va_D A (ws ++ ((q, .inl (cJ, N, rf5 (gR N r))) :: (List.range N).map (fun i => (r i, .inl (cI, K, .inl (fun _ => 0)))))) → va_S A H0 H1 locs →
      W p l e R s m args below meth c H1 locs cells1 slots1 Q (F0 m (pc + 4) ls (.ref q :: rest))) : W p l e R s m args below meth c H locs cells slots Q (F0 m pc ls (.int k :: .int n :: rest)) := by
  subst hn
  subst hk
  have a2 : s.vm.findClass (FieldType.array .int).toString = some cI := by
    have h := (hK.2 t0 _ ht0).2
    exact h
  have e0 : ws ++ va_pl [] (fun _ => (.inl (cI, K, .inl (fun _ => 0)) : va_E)) = ws := List.append_nil ws
  refine va_mna (X := ws) (L := []) (f := fun _ => .inl (cI, K, .inl (fun _ => 0))) (ty := .int) (cy := cI) (z := (K, .inl (fun _ => 0))) hexec hb hown hclink hover harr a2 hK (by rw [e0]; exact hP) (by rw [e0]; exact hD) hS hA (nI_pos (by omega)) (nI_pos (by omega)) (nI_clamp (by omega)) (nI_clamp (by omega)) (by omega) (by show K * 4 ≤ 536870912; omega) (by omega) rfl rfl (by omega) (by omega) (fun cA => ?_) hdg (fun q r cA H1 hinj hnl hK1 hP1 hD1 hS1 => ?_)
  · rw [vp_cell_i]
    exact arrV_new cA K (.int 0)
  · obtain rfl := gr_one hK t1 ht1 hK1
    have e1 : (ws ++ [(q, (.inl (cA, N, .inr (.inr (.inr (.inr (fun i => if i < N then some (r i) else none))))) : va_E))]) ++ va_pl ([] ++ (List.range N).map r) (vr_up (fun _ => (.inl (cI, K, .inl (fun _ => 0)) : va_E)) ((List.range N).map r) (.inl (cI, K, .inl (fun _ => 0)))) = ws ++ ((q, .inl (cA, N, rf5 (gR N r))) :: (List.range N).map (fun i => (r i, .inl (cI, K, .inl (fun _ => 0))))) := by
      rw [← vr_rows (L := []) (l := (List.range N).map r) (fun a _ h => by cases h), List.map_map, List.append_assoc]
      first | rfl | (simp only [va_pl, List.map_nil, List.nil_append, List.cons_append, List.singleton_append]; rfl) | skip
    rw [e1] at hP1 hD1
    have ec : cells + 1 + N = cells1 := by omega
    have es : slots + N + N * K = slots1 := by omega
    rw [ec, es]
    exact kk q r H1 hP1 hD1 hS1
/-- new boolean[N][K] -/
theorem gr_mnz (hexec : p.tables.exec = Jvm.exec) (hb : c.code = cc) {own : String} {index : Nat} (hown : s.vm.findClass own = some m.cls) (hclink : (Cond.classLink own index "[[Z").before args s = true) (hover : va_AOA .boolean s) (harr : (Cond.arrayClass .boolean).before args s = true) (t0 t1 : Nat) (ht0 : tys[t0]? = some (cI, .boolean)) (ht1 : tys[t1]? = some (cJ, .array .boolean))
    (hK : va_K D cl tys s) (hP : va_P D cl ws H) (hD : va_D A ws) (hS : va_S A H0 H locs) (hA : ∀ q, H0.size ≤ q → A q) {n k : Int32} (N K : Nat) (hn : n = nI N) (hk : k = nI K) (hN : N < 1000) (hM : K < 1000) {cells1 slots1 : Nat} (hc9 : cells + (1 + N) = cells1) (hs9 : slots + (N + N * K) = slots1) (hcells : cells1 ≤ R.cells) (hslots : slots1 ≤ R.slots) (hdg : decode cc pc = .ok (.multianewarray index 2, 4))
    (kk : ∀ (q : Nat) (r : Nat → Nat) (H1 : Heap), va_P D cl (ws ++ ((q, .inl (cJ, N, rf5 (gR N r))) :: (List.range N).map (fun i => (r i, .inl (cI, K, .inl (fun _ => 0)))))) H1 → va_D A (ws ++ ((q, .inl (cJ, N, rf5 (gR N r))) :: (List.range N).map (fun i => (r i, .inl (cI, K, .inl (fun _ => 0)))))) → va_S A H0 H1 locs →
      W p l e R s m args below meth c H1 locs cells1 slots1 Q (F0 m (pc + 4) ls (.ref q :: rest))) : W p l e R s m args below meth c H locs cells slots Q (F0 m pc ls (.int k :: .int n :: rest)) := by
  subst hn
  subst hk
  have a2 : s.vm.findClass (FieldType.array .boolean).toString = some cI := by
    have h := (hK.2 t0 _ ht0).2
    exact h
  have e0 : ws ++ va_pl [] (fun _ => (.inl (cI, K, .inl (fun _ => 0)) : va_E)) = ws := List.append_nil ws
  refine va_mna (X := ws) (L := []) (f := fun _ => .inl (cI, K, .inl (fun _ => 0))) (ty := .boolean) (cy := cI) (z := (K, .inl (fun _ => 0))) hexec hb hown hclink hover harr a2 hK (by rw [e0]; exact hP) (by rw [e0]; exact hD) hS hA (nI_pos (by omega)) (nI_pos (by omega)) (nI_clamp (by omega)) (nI_clamp (by omega)) (by omega) (by show K * 1 ≤ 536870912; omega) (by omega) rfl rfl (by omega) (by omega) (fun cA => ?_) hdg (fun q r cA H1 hinj hnl hK1 hP1 hD1 hS1 => ?_)
  · rw [vp_cell_i]
    exact arrV_new cA K (.int 0)
  · obtain rfl := gr_one hK t1 ht1 hK1
    have e1 : (ws ++ [(q, (.inl (cA, N, .inr (.inr (.inr (.inr (fun i => if i < N then some (r i) else none))))) : va_E))]) ++ va_pl ([] ++ (List.range N).map r) (vr_up (fun _ => (.inl (cI, K, .inl (fun _ => 0)) : va_E)) ((List.range N).map r) (.inl (cI, K, .inl (fun _ => 0)))) = ws ++ ((q, .inl (cA, N, rf5 (gR N r))) :: (List.range N).map (fun i => (r i, .inl (cI, K, .inl (fun _ => 0))))) := by
      rw [← vr_rows (L := []) (l := (List.range N).map r) (fun a _ h => by cases h), List.map_map, List.append_assoc]
      first | rfl | (simp only [va_pl, List.map_nil, List.nil_append, List.cons_append, List.singleton_append]; rfl) | skip
    rw [e1] at hP1 hD1
    have ec : cells + 1 + N = cells1 := by omega
    have es : slots + N + N * K = slots1 := by omega
    rw [ec, es]
    exact kk q r H1 hP1 hD1 hS1
end GRW
