/-- a grid of 64 rows of 6 -/
def wG (q : Nat) (rr : Nat → Nat) (cI cJ : ClassId) (G : Nat → Nat → Int32) : va_W := (q, .inl (cJ, 64, rf5 (gR 64 rr))) :: (List.range 64).map (fun i => (rr i, .inl (cI, 6, .inl (G i))))
theorem wG_len {q : Nat} {rr : Nat → Nat} {cI cJ : ClassId} {G : Nat → Nat → Int32} : (wG q rr cI cJ G).length = 65 := by
  unfold wG
  rw [List.length_cons, List.length_map, List.length_range]
theorem wG_row {q : Nat} {rr : Nat → Nat} {cI cJ : ClassId} {G : Nat → Nat → Int32} {x : Nat} (hx : x < 64) : (wG q rr cI cJ G)[1 + x]? = some (rr x, .inl (cI, 6, .inl (G x))) := by
  unfold wG
  rw [Nat.add_comm, List.getElem?_cons_succ, List.getElem?_map, List.getElem?_range hx]
  rfl
theorem wG_set {q : Nat} {rr : Nat → Nat} {cI cJ : ClassId} {G : Nat → Nat → Int32} {x : Nat} {f : Nat → Int32} (hx : x < 64) : (wG q rr cI cJ G).set (1 + x) (rr x, .inl (cI, 6, .inl f)) = wG q rr cI cJ (fun i => if i = x then f else G i) := by
  apply List.ext_getElem?
  intro i
  rw [List.getElem?_set]
  cases i with
  | zero =>
    rw [if_neg (by omega)]
    rfl
  | succ i =>
    by_cases hi : i < 64
    · have e : ∀ G9 : Nat → Nat → Int32, (wG q rr cI cJ G9)[i + 1]? = some (rr i, .inl (cI, 6, .inl (G9 i))) := fun G9 => by rw [Nat.add_comm]; exact wG_row hi
      rw [e, e]
      by_cases h : x = i
      · subst h
        rw [if_pos (by omega), if_pos (by rw [wG_len]; omega), if_pos rfl]
      · rw [if_neg (by omega), if_neg (fun z => h z.symm)]
    · rw [if_neg (by omega), List.getElem?_eq_none (by rw [wG_len]; omega), List.getElem?_eq_none (by rw [wG_len]; omega)]
theorem wg_row {ws : va_W} {n q : Nat} {rr : Nat → Nat} {cI cJ : ClassId} {G : Nat → Nat → Int32} (h1 : ws.drop n = wG q rr cI cJ G) {x : Nat} (hx : x < 64) : ws[n + (1 + x)]? = some (rr x, .inl (cI, 6, .inl (G x))) := by
  rw [← List.getElem?_drop, h1, wG_row hx]
theorem wg_set {ws ws1 : va_W} {n q : Nat} {rr : Nat → Nat} {cI cJ : ClassId} {G G1 : Nat → Nat → Int32} {f : Nat → Int32} (h1 : ws.drop n = wG q rr cI cJ G) {x : Nat} (hx : x < 64) (hG : (fun i => if i = x then f else G i) = G1) (h2 : ws1 = ws.take n ++ wG q rr cI cJ G1) : ws.set (n + (1 + x)) (rr x, .inl (cI, 6, .inl f)) = ws1 := by
  rw [h2, ← hG, ← wG_set hx]
  generalize (rr x, (.inl (cI, 6, .inl f) : va_E)) = E
  have hq : n ≤ ws.length := by
    apply Classical.byContradiction
    intro hn
    have e : ws.drop n = [] := List.drop_eq_nil_iff.mpr (by omega)
    rw [e] at h1
    have e2 := congrArg List.length h1
    rw [wG_len] at e2
    cases e2
  have hl : (ws.take n).length = n := by rw [List.length_take]; omega
  have e : ws.set (n + (1 + x)) E = (ws.take n ++ ws.drop n).set (n + (1 + x)) E := by rw [List.take_append_drop]
  rw [e, List.set_append, if_neg (by omega), hl, h1]
  have e2 : n + (1 + x) - n = 1 + x := by omega
  rw [e2]
section WGR
variable {p : Program} {l : Launch} {e : Env} {R : Room} {s : State} {m : MethodId} {args : Array Value} {below : List Frame} {meth : Method} {c : Code} {H H0 : Heap} {locs : List Loc} {cells slots : Nat} {Q : State → Prop}
variable {pc : Nat} {ls : Array Slot} {rest : List Value} {cc : ByteArray} {D : va_G} {cl : List vw_C} {tys : List (ClassId × FieldType)} {A : Nat → Prop} {ws ws1 : va_W} {q : Nat} {cI cJ : ClassId} {rr : Nat → Nat} {G : Nat → Nat → Int32}
theorem wg_iald (hexec : p.tables.exec = Jvm.exec) (hb : c.code = cc) (hK : va_K D cl tys s) (hP : va_P D cl ws H) (n t0 : Nat) (h1 : ws.drop n = wG q rr cI cJ G) (ht : tys[t0]? = some (cI, .int)) (x y : Nat) (hx : x < 64) (hy : y < 6) {i v : Int32} (hi : i = nI y) (hv : G x y = v) (hdg : decode cc pc = .ok (.iaload, 1))
    (kk : W p l e R s m args below meth c H locs cells slots Q (F0 m (pc + 1) ls (.int v :: rest))) : W p l e R s m args below meth c H locs cells slots Q (F0 m pc ls (.int i :: .ref (rr x) :: rest)) :=
  ct_iald hexec hb hK hP (n + (1 + x)) t0 (wg_row h1 hx) ht y hi hy (by decide) hv hdg kk
theorem wg_iast (hexec : p.tables.exec = Jvm.exec) (hb : c.code = cc) (hK : va_K D cl tys s) (hP : va_P D cl ws H) (hD : va_D A ws) (hS : va_S A H0 H locs) (n t0 : Nat) (h1 : ws.drop n = wG q rr cI cJ G) (ht : tys[t0]? = some (cI, .int)) (x y : Nat) (hx : x < 64) (hy : y < 6) {i v : Int32} (hi : i = nI y) {G1 : Nat → Nat → Int32} (hG : (fun i => if i = x then upd (G x) y v else G i) = G1) (h2 : ws1 = ws.take n ++ wG q rr cI cJ G1) (hdg : decode cc pc = .ok (.iastore, 1))
    (kk : ∀ (H1 : Heap) (locs1 : List Loc), va_P D cl ws1 H1 → va_D A ws1 → va_S A H0 H1 locs1 → W p l e R s m args below meth c H1 locs1 cells slots Q (F0 m (pc + 1) ls rest)) : W p l e R s m args below meth c H locs cells slots Q (F0 m pc ls (.int v :: .int i :: .ref (rr x) :: rest)) :=
  ct_iast hexec hb hK hP hD hS (n + (1 + x)) t0 (wg_row h1 hx) ht y hi hy (by decide) rfl (wg_set h1 hx hG h2) hdg kk
end WGR
theorem wg_step {G CE : Nat → Nat → Int32} {k j : Nat} {v : Int32} (hv : v = CE k j) (h : ∀ i j9, j9 < 6 → (i < k ∨ (i = k ∧ j9 < j)) → G i j9 = CE i j9) : ∀ i j9, j9 < 6 → (i < k ∨ (i = k ∧ j9 < j + 1)) → (fun i => if i = k then upd (G k) j v else G i) i j9 = CE i j9 := by
  intro i j9 h6 hc
  show (if i = k then upd (G k) j v else G i) j9 = CE i j9
  by_cases e : i = k
  · subst e
    rw [if_pos rfl]
    by_cases e2 : j9 = j
    · subst e2
      rw [pk_us]
      exact hv
    · rw [pk_un e2]
      exact h i j9 h6 (Or.inr ⟨rfl, by omega⟩)
  · rw [if_neg e]
    exact h i j9 h6 (Or.inl (by omega))
theorem up_step {f T : Nat → Int32} {a n : Nat} {v : Int32} (hv : v = T n) (h : ∀ j, a ≤ j → j < n → f j = T j) : ∀ j, a ≤ j → j < n + 1 → upd f n v j = T j := by
  intro j ha hj
  by_cases e : j = n
  · subst e
    rw [pk_us]
    exact hv
  · rw [pk_un e]
    exact h j ha (by omega)
theorem at_k {k : Nat} (hk : k < 64) : q_at (nI (k % 8)) (nI (k / 8)) = k := by
  rw [qat_nI (by omega) (by omega)]
  omega
theorem in_k {k : Nat} (hk : k < 64) : inC (nI (k % 8)) (nI (k / 8)) := (inC_nI (by omega) (by omega)).mpr ⟨by omega, by omega⟩
theorem c_1 : (1 : Int32).toNatClampNeg = 1 := rfl
