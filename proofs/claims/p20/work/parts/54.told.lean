/-- what is told of the lakes, column by column -/
def td_I (wat : Nat → Int32) (i : Nat) (sn : Nat → Bool) (v : Int32) : Prop := (∀ c, sn c = true ↔ ∃ k, k ∈ (List.range i).map od ∧ lk_R wat k c) ∧ lk_C wat (fun c => sn c = true) ∧ v = nI (lk_n wat ((List.range i).map od) lk_0)
theorem td_0 (wat : Nat → Int32) : td_I wat 0 (fun _ => false) 0 := by
  refine ⟨fun c => ⟨fun h => (by cases h), fun h => ?_⟩, fun a b s h => (by cases h), rfl⟩
  obtain ⟨k, hk, -⟩ := h
  simp at hk
theorem td_up {wat : Nat → Int32} {x y : Nat} {sn u : Nat → Bool} {v rv : Int32} (hx : x < 8) (hy : y < 8) (h : td_I wat (8 * x + y) sn v) (hp : sp_post wat sn (nI x) (nI y) rv u) : (0 < rv → td_I wat (8 * x + y + 1) u (v + 1)) ∧ (¬ 0 < rv → td_I wat (8 * x + y + 1) u (v + 0)) := by
  obtain ⟨h1, h2, h3⟩ := h
  obtain ⟨g1, g2⟩ := sp_lake hx hy h2 hp
  rw [← od_at hx hy] at g1 g2
  generalize 8 * x + y = i at *
  have e : (List.range (i + 1)).map od = (List.range i).map od ++ [od i] := by rw [List.range_succ, List.map_append]; rfl
  have c1 : ∀ c, u c = true ↔ ∃ k, k ∈ (List.range (i + 1)).map od ∧ lk_R wat k c := by
    intro c
    rw [g1 c, h1 c, e]
    constructor
    · rintro (⟨k, hk, h⟩ | h)
      · exact ⟨k, List.mem_append_left _ hk, h⟩
      · exact ⟨od i, List.mem_append_right _ List.mem_cons_self, h⟩
    · rintro ⟨k, hk, h⟩
      rcases List.mem_append.mp hk with hk | hk
      · exact Or.inl ⟨k, hk, h⟩
      · rw [List.mem_singleton.mp hk] at h
        exact Or.inr h
  have n1 : lk_n wat ((List.range (i + 1)).map od) lk_0 = lk_n wat ((List.range i).map od) lk_0 + (lk_b (0 < wat (od i) ∧ ¬ (False ∨ ∃ k, k ∈ (List.range i).map od ∧ lk_R wat k (od i))) + 0) := by rw [e, lk_n_app]; rfl
  refine ⟨fun hr => ⟨c1, lk_C_up h2 g1, ?_⟩, fun hr => ⟨c1, lk_C_up h2 g1, ?_⟩⟩
  · obtain ⟨a1, a2⟩ := g2.mp hr
    rw [n1, lk_b_yes ⟨a2, fun h => h.elim id (fun h => by rw [(h1 (od i)).mpr h] at a1; cases a1)⟩, h3]
    exact nI_1 _
  · have hno : ¬ (0 < wat (od i) ∧ ¬ (False ∨ ∃ k, k ∈ (List.range i).map od ∧ lk_R wat k (od i))) := by
      rintro ⟨a2, a1⟩
      refine hr (g2.mpr ⟨?_, a2⟩)
      cases hz : sn (od i) with
      | false => rfl
      | true => exact absurd (Or.inr ((h1 (od i)).mp hz)) a1
    rw [n1, lk_b_no hno, h3, Int32.add_zero]
    rfl
theorem td_end {wat : Nat → Int32} {sn : Nat → Bool} {v : Int32} (h : td_I wat 64 sn v) : v = q_lakes wat := by
  rw [h.2.2, lk_lakes, lk_n_perm od_perm lk_0 (lk_C_0 wat) (fun k hk => by
    obtain ⟨j, hj, rfl⟩ := List.mem_map.mp hk
    exact od_lt (List.mem_range.mp hj))]
theorem bits_0 : (fun _ => 0 : Nat → Int32) = q_bits (fun _ => false) := funext fun _ => rfl
abbrev rm_X2_told : Room := { frames := 68, cells := 9, slots := 72, locals := 1700 }
set_option maxHeartbeats 4000000 in
set_option maxRecDepth 100000 in
theorem c_X2_told0 (l : Launch) (D : va_G) (cI cJ cZ cB : ClassId) (κ : Kx) (h : Nat) (a : Nat → Nat) (r : Nat → Nat → Nat) (aw : Nat) (bw : Nat → Nat) (hei dra rai : Nat → Int32) (σ : Ms) (hw0 : ∀ c, c < 64 → 0 ≤ m_wat σ c) : cg_i (S := Unit) l D yX2_told wsX2_told rm_X2_told [.ref h, .int (nI 0)] (sM h a r aw bw cI cJ hei dra rai σ) [(cI, .int), (cJ, .array .int), (cZ, .boolean), (cB, .array .boolean)] κ (fun v _ => v = q_tally σ 0) (fun _ => (sM h a r aw bw cI cJ hei dra rai σ)) := by
  refine cg_ofi (cc := cX2_told) (maxL := 6) (by decide) rfl (Nat.le_of_ble_eq_true rfl) ?_
  intro p e s m args below meth c A Q C0 H locs hP hD hS fin ls hl
  obtain ⟨hx, hb, hml, hown, hts, hA, hK, hX⟩ := C0
  have hown : s.vm.findClass RX2 = some m.cls := hown
  have hl : lv_has ls 6 [(0, .ref h), (1, .int (nI 0))] := hl
  refine lv_iconst (v := 0) hx hb dX2_told_0 (by decide) ?_
  refine lv_istore_n (lv' := [(2, .int 0), (0, .ref h), (1, .int (nI 0))]) hx hb dX2_told_1 rfl hl (by decide) rfl (fun ls hl => ?_)
  refine lv_bipush (v := 8) hx hb dX2_told_2 (by decide) ?_
  refine lv_bipush (v := 8) hx hb dX2_told_4 (by decide) ?_
  refine gr_mnz (cells1 := 9) (slots1 := 72) hx hb hown (hts (Cond.classLink RX2 59 "[[Z") (List.mem_of_getElem? (i := 1) rfl)) hX.2.2.1 (hts (Cond.arrayClass .boolean) (List.mem_of_getElem? (i := 2) rfl)) 2 3 rfl rfl hK hP hD hS hA 8 8 rfl rfl (by decide) (by decide) rfl rfl (Nat.le_of_ble_eq_true rfl) (Nat.le_of_ble_eq_true rfl) dX2_told_6 (fun q rr H hP hD hS => ?_)
  have hP : va_P D vwCl ((sM h a r aw bw cI cJ hei dra rai σ) ++ (gr q rr cZ cB (fun _ => 0))) H := hP
  have hD : va_D A ((sM h a r aw bw cI cJ hei dra rai σ) ++ (gr q rr cZ cB (fun _ => 0))) := hD
  refine lv_astore_n (lv' := [(3, .ref q), (2, .int 0), (0, .ref h), (1, .int (nI 0))]) hx hb dX2_told_10 rfl hl (by decide) rfl (fun ls hl => ?_)
  refine lv_iconst (v := 0) hx hb dX2_told_11 (by decide) ?_
  refine lv_istore (lv' := [(4, .int 0), (3, .ref q), (2, .int 0), (0, .ref h), (1, .int (nI 0))]) hx hb dX2_told_12 hl (by decide) rfl (fun ls hl => ?_)
  have lx : ∀ (fux x : Nat), x + fux = 8 → ∀ (v : Int32) (H : Heap) (locs : List Loc) (ls : Array Slot), va_P D vwCl ((sM h a r aw bw cI cJ hei dra rai σ) ++ (gr q rr cZ cB (fun _ => 0))) H → va_D A ((sM h a r aw bw cI cJ hei dra rai σ) ++ (gr q rr cZ cB (fun _ => 0))) → va_S A s.heap H locs → lv_has ls 6 [(0, .ref h), (1, .int (nI 0)), (2, .int v), (3, .ref q), (4, .int (nI x))] → W p l e rm_X2_told s m args below meth c H locs 9 72 Q (F0 m 14 ls []) := by
    intro fux
    induction fux with
    | zero =>
      intro x hix v H locs ls  hP hD hS hl
      obtain rfl : 8 = x := by omega
      refine lv_iload hx hb dX2_told_14 (lv_at hl 4 rfl) ?_
      refine lv_bipush (v := 8) hx hb dX2_told_16 (by decide) ?_
      refine lv_icmp_ge (tgt := 158) hx hb dX2_told_18 (by decide) (fun hc => ?_) (fun hc => ?_)
      · skip
        have hP := gp_left hP
        have hD := gp_leftD hD
        refine lv_iload_n hx hb dX2_told_158 rfl (lv_at hl 1 rfl) ?_
        refine lv_if_ne (tgt := 169) hx hb dX2_told_159 (by decide) (fun hs => ?_) (fun hs => ?_)
        · first | exact absurd hs (by decide) | exact absurd (by decide) hs
        refine lv_aload_n hx hb dX2_told_162 rfl (lv_at hl 0 rfl) ?_
        refine va_get (D := D) (ci := 2) (v := .int (nI (m_t σ))) (C := RX2) (T := TX2) (N := 11) hx hb hts (fun _ h9 => (List.mem_cons_of_mem _ (List.mem_append_right _ h9))) hown hK hP 0 rfl rfl 7 (by decide) (hts (Cond.fieldLink RX2 37 "FloodGridLaw$Sim" "hour" "I") (List.mem_of_getElem? (i := 6) rfl)) (fun _ h9 => h9) rfl dX2_told_163 ?_
        refine lv_goto (tgt := 207) hx hb dX2_told_166 (by decide) ?_
        exact fin (nI (m_t σ)) () H locs 9 72 207 ls dX2_told_207 rfl hP hD hS (Nat.le_of_ble_eq_true rfl) (Nat.le_of_ble_eq_true rfl)
      · skip
        exact absurd (show (8 : Int32) ≤ nI 8 by decide) hc
    | succ fux ihx =>
      intro x hix v H locs ls  hP hD hS hl
      have hx8 : x < 8 := by omega
      refine lv_iload hx hb dX2_told_14 (lv_at hl 4 rfl) ?_
      refine lv_bipush (v := 8) hx hb dX2_told_16 (by decide) ?_
      refine lv_icmp_ge (tgt := 158) hx hb dX2_told_18 (by decide) (fun hc => ?_) (fun hc => ?_)
      · skip
        exact absurd hc (nI_ge (b := 8) hx8 (by decide))
      · skip
        refine lv_iconst (v := 0) hx hb dX2_told_21 (by decide) ?_
        refine lv_istore (lv' := [(5, .int 0), (0, .ref h), (1, .int (nI 0)), (2, .int v), (3, .ref q), (4, .int (nI x))]) hx hb dX2_told_22 hl (by decide) rfl (fun ls hl => ?_)
        have ly : ∀ (fuy y : Nat), y + fuy = 8 → ∀ (v : Int32) (H : Heap) (locs : List Loc) (ls : Array Slot), va_P D vwCl ((sM h a r aw bw cI cJ hei dra rai σ) ++ (gr q rr cZ cB (fun _ => 0))) H → va_D A ((sM h a r aw bw cI cJ hei dra rai σ) ++ (gr q rr cZ cB (fun _ => 0))) → va_S A s.heap H locs → lv_has ls 6 [(0, .ref h), (1, .int (nI 0)), (2, .int v), (3, .ref q), (4, .int (nI x)), (5, .int (nI y))] → W p l e rm_X2_told s m args below meth c H locs 9 72 Q (F0 m 24 ls []) := by
          intro fuy
          induction fuy with
          | zero =>
            intro y hiy v H locs ls  hP hD hS hl
            obtain rfl : 8 = y := by omega
            refine lv_iload hx hb dX2_told_24 (lv_at hl 5 rfl) ?_
            refine lv_bipush (v := 8) hx hb dX2_told_26 (by decide) ?_
            refine lv_icmp_ge (tgt := 152) hx hb dX2_told_28 (by decide) (fun hc2 => ?_) (fun hc2 => ?_)
            · skip
              refine lv_iinc (v := (nI (x + 1))) (lv' := [(4, .int (nI (x + 1))), (0, .ref h), (1, .int (nI 0)), (2, .int v), (3, .ref q), (5, .int (nI 8))]) hx hb dX2_told_152 hl (k := 4) rfl (nI_1 x) (by decide) rfl (fun ls hl => ?_)
              refine lv_goto (tgt := 14) hx hb dX2_told_155 (by decide) ?_
              exact ihx (x + 1) (by omega) v H locs ls  hP hD hS (lv_sub hl [1, 2, 3, 4, 0] rfl)
            · skip
              exact absurd (show (8 : Int32) ≤ nI 8 by decide) hc2
          | succ fuy ihy =>
            intro y hiy v H locs ls  hP hD hS hl
            have hy8 : y < 8 := by omega
            refine lv_iload hx hb dX2_told_24 (lv_at hl 5 rfl) ?_
            refine lv_bipush (v := 8) hx hb dX2_told_26 (by decide) ?_
            refine lv_icmp_ge (tgt := 152) hx hb dX2_told_28 (by decide) (fun hc2 => ?_) (fun hc2 => ?_)
            · skip
              exact absurd hc2 (nI_ge (b := 8) hy8 (by decide))
            · skip
              have hi64 : 8 * x + y < 64 := by omega
              have hk64 : od (8 * x + y) < 64 := od_lt hi64
              refine lv_iload_n hx hb dX2_told_31 rfl (lv_at hl 1 rfl) ?_
              refine lv_iconst (v := 1) hx hb dX2_told_32 (by decide) ?_
              refine lv_icmp_ne (tgt := 49) hx hb dX2_told_33 (by decide) (fun hs => ?_) (fun hs => ?_)
              rotate_left
              · first | exact absurd hs (by decide) | exact absurd (by decide) hs
              refine lv_iload_n hx hb dX2_told_49 rfl (lv_at hl 1 rfl) ?_
              refine lv_iconst (v := 2) hx hb dX2_told_50 (by decide) ?_
              refine lv_icmp_ne (tgt := 75) hx hb dX2_told_51 (by decide) (fun hs => ?_) (fun hs => ?_)
              rotate_left
              · first | exact absurd hs (by decide) | exact absurd (by decide) hs
              refine lv_iload_n hx hb dX2_told_75 rfl (lv_at hl 1 rfl) ?_
              refine lv_iconst (v := 3) hx hb dX2_told_76 (by decide) ?_
              refine lv_icmp_ne (tgt := 101) hx hb dX2_told_77 (by decide) (fun hs => ?_) (fun hs => ?_)
              rotate_left
              · first | exact absurd hs (by decide) | exact absurd (by decide) hs
              refine lv_iload_n hx hb dX2_told_101 rfl (lv_at hl 1 rfl) ?_
              refine lv_bipush (v := 6) hx hb dX2_told_102 (by decide) ?_
              refine lv_icmp_ne (tgt := 120) hx hb dX2_told_104 (by decide) (fun hs => ?_) (fun hs => ?_)
              rotate_left
              · first | exact absurd hs (by decide) | exact absurd (by decide) hs
              refine lv_iload_n hx hb dX2_told_120 rfl (lv_at hl 1 rfl) ?_
              refine lv_bipush (v := 8) hx hb dX2_told_121 (by decide) ?_
              refine lv_icmp_ne (tgt := 146) hx hb dX2_told_123 (by decide) (fun hs => ?_) (fun hs => ?_)
              rotate_left
              · first | exact absurd hs (by decide) | exact absurd (by decide) hs
              refine lv_iinc (v := (nI (y + 1))) (lv' := [(5, .int (nI (y + 1))), (0, .ref h), (1, .int (nI 0)), (2, .int v), (3, .ref q), (4, .int (nI x))]) hx hb dX2_told_146 hl (k := 5) rfl (nI_1 y) (by decide) rfl (fun ls hl => ?_)
              refine lv_goto (tgt := 24) hx hb dX2_told_149 (by decide) ?_
              exact ihy (y + 1) (by omega) v H locs ls  hP hD hS (lv_sub hl [1, 2, 3, 4, 5, 0] rfl)
        exact ly 8 0 (by omega) v H locs ls  hP hD hS (lv_sub hl [1, 2, 3, 4, 5, 0] rfl)
  exact lx 8 0 (by omega) 0 H locs ls  hP hD hS (lv_sub hl [3, 4, 2, 1, 0] rfl)
set_option maxHeartbeats 4000000 in
set_option maxRecDepth 100000 in
theorem c_X2_told1 (l : Launch) (D : va_G) (cI cJ cZ cB : ClassId) (κ : Kx) (h : Nat) (a : Nat → Nat) (r : Nat → Nat → Nat) (aw : Nat) (bw : Nat → Nat) (hei dra rai : Nat → Int32) (σ : Ms) (hw0 : ∀ c, c < 64 → 0 ≤ m_wat σ c) : cg_i (S := Unit) l D yX2_told wsX2_told rm_X2_told [.ref h, .int (nI 1)] (sM h a r aw bw cI cJ hei dra rai σ) [(cI, .int), (cJ, .array .int), (cZ, .boolean), (cB, .array .boolean)] κ (fun v _ => v = q_tally σ 1) (fun _ => (sM h a r aw bw cI cJ hei dra rai σ)) := by
  refine cg_ofi (cc := cX2_told) (maxL := 6) (by decide) rfl (Nat.le_of_ble_eq_true rfl) ?_
  intro p e s m args below meth c A Q C0 H locs hP hD hS fin ls hl
  obtain ⟨hx, hb, hml, hown, hts, hA, hK, hX⟩ := C0
  have hown : s.vm.findClass RX2 = some m.cls := hown
  have hl : lv_has ls 6 [(0, .ref h), (1, .int (nI 1))] := hl
  refine lv_iconst (v := 0) hx hb dX2_told_0 (by decide) ?_
  refine lv_istore_n (lv' := [(2, .int 0), (0, .ref h), (1, .int (nI 1))]) hx hb dX2_told_1 rfl hl (by decide) rfl (fun ls hl => ?_)
  refine lv_bipush (v := 8) hx hb dX2_told_2 (by decide) ?_
  refine lv_bipush (v := 8) hx hb dX2_told_4 (by decide) ?_
  refine gr_mnz (cells1 := 9) (slots1 := 72) hx hb hown (hts (Cond.classLink RX2 59 "[[Z") (List.mem_of_getElem? (i := 1) rfl)) hX.2.2.1 (hts (Cond.arrayClass .boolean) (List.mem_of_getElem? (i := 2) rfl)) 2 3 rfl rfl hK hP hD hS hA 8 8 rfl rfl (by decide) (by decide) rfl rfl (Nat.le_of_ble_eq_true rfl) (Nat.le_of_ble_eq_true rfl) dX2_told_6 (fun q rr H hP hD hS => ?_)
  have hP : va_P D vwCl ((sM h a r aw bw cI cJ hei dra rai σ) ++ (gr q rr cZ cB (fun _ => 0))) H := hP
  have hD : va_D A ((sM h a r aw bw cI cJ hei dra rai σ) ++ (gr q rr cZ cB (fun _ => 0))) := hD
  refine lv_astore_n (lv' := [(3, .ref q), (2, .int 0), (0, .ref h), (1, .int (nI 1))]) hx hb dX2_told_10 rfl hl (by decide) rfl (fun ls hl => ?_)
  refine lv_iconst (v := 0) hx hb dX2_told_11 (by decide) ?_
  refine lv_istore (lv' := [(4, .int 0), (3, .ref q), (2, .int 0), (0, .ref h), (1, .int (nI 1))]) hx hb dX2_told_12 hl (by decide) rfl (fun ls hl => ?_)
  have lx : ∀ (fux x : Nat), x + fux = 8 → ∀ (v : Int32) (H : Heap) (locs : List Loc) (ls : Array Slot), (v = 0 + q_sum (fun j => (m_wat σ) (od j)) (8 * x)) → va_P D vwCl ((sM h a r aw bw cI cJ hei dra rai σ) ++ (gr q rr cZ cB (fun _ => 0))) H → va_D A ((sM h a r aw bw cI cJ hei dra rai σ) ++ (gr q rr cZ cB (fun _ => 0))) → va_S A s.heap H locs → lv_has ls 6 [(0, .ref h), (1, .int (nI 1)), (2, .int v), (3, .ref q), (4, .int (nI x))] → W p l e rm_X2_told s m args below meth c H locs 9 72 Q (F0 m 14 ls []) := by
    intro fux
    induction fux with
    | zero =>
      intro x hix v H locs ls hv hP hD hS hl
      obtain rfl : 8 = x := by omega
      refine lv_iload hx hb dX2_told_14 (lv_at hl 4 rfl) ?_
      refine lv_bipush (v := 8) hx hb dX2_told_16 (by decide) ?_
      refine lv_icmp_ge (tgt := 158) hx hb dX2_told_18 (by decide) (fun hc => ?_) (fun hc => ?_)
      · skip
        have hP := gp_left hP
        have hD := gp_leftD hD
        refine lv_iload_n hx hb dX2_told_158 rfl (lv_at hl 1 rfl) ?_
        refine lv_if_ne (tgt := 169) hx hb dX2_told_159 (by decide) (fun hs => ?_) (fun hs => ?_)
        rotate_left
        · first | exact absurd hs (by decide) | exact absurd (by decide) hs
        refine lv_iload_n hx hb dX2_told_169 rfl (lv_at hl 1 rfl) ?_
        refine lv_iconst (v := 4) hx hb dX2_told_170 (by decide) ?_
        refine lv_icmp_ne (tgt := 181) hx hb dX2_told_171 (by decide) (fun hs => ?_) (fun hs => ?_)
        rotate_left
        · first | exact absurd hs (by decide) | exact absurd (by decide) hs
        refine lv_iload_n hx hb dX2_told_181 rfl (lv_at hl 1 rfl) ?_
        refine lv_iconst (v := 5) hx hb dX2_told_182 (by decide) ?_
        refine lv_icmp_ne (tgt := 193) hx hb dX2_told_183 (by decide) (fun hs => ?_) (fun hs => ?_)
        rotate_left
        · first | exact absurd hs (by decide) | exact absurd (by decide) hs
        refine lv_iload_n hx hb dX2_told_193 rfl (lv_at hl 1 rfl) ?_
        refine lv_bipush (v := 7) hx hb dX2_told_194 (by decide) ?_
        refine lv_icmp_ne (tgt := 206) hx hb dX2_told_196 (by decide) (fun hs => ?_) (fun hs => ?_)
        rotate_left
        · first | exact absurd hs (by decide) | exact absurd (by decide) hs
        refine lv_iload_n hx hb dX2_told_206 rfl (lv_at hl 2 rfl) ?_
        exact fin v () H locs 9 72 207 ls dX2_told_207 (by rw [hv, Int32.zero_add]; exact so_64 (m_wat σ)) hP hD hS (Nat.le_of_ble_eq_true rfl) (Nat.le_of_ble_eq_true rfl)
      · skip
        exact absurd (show (8 : Int32) ≤ nI 8 by decide) hc
    | succ fux ihx =>
      intro x hix v H locs ls hv hP hD hS hl
      have hx8 : x < 8 := by omega
      refine lv_iload hx hb dX2_told_14 (lv_at hl 4 rfl) ?_
      refine lv_bipush (v := 8) hx hb dX2_told_16 (by decide) ?_
      refine lv_icmp_ge (tgt := 158) hx hb dX2_told_18 (by decide) (fun hc => ?_) (fun hc => ?_)
      · skip
        exact absurd hc (nI_ge (b := 8) hx8 (by decide))
      · skip
        refine lv_iconst (v := 0) hx hb dX2_told_21 (by decide) ?_
        refine lv_istore (lv' := [(5, .int 0), (0, .ref h), (1, .int (nI 1)), (2, .int v), (3, .ref q), (4, .int (nI x))]) hx hb dX2_told_22 hl (by decide) rfl (fun ls hl => ?_)
        have ly : ∀ (fuy y : Nat), y + fuy = 8 → ∀ (v : Int32) (H : Heap) (locs : List Loc) (ls : Array Slot), (v = 0 + q_sum (fun j => (m_wat σ) (od j)) (8 * x + y)) → va_P D vwCl ((sM h a r aw bw cI cJ hei dra rai σ) ++ (gr q rr cZ cB (fun _ => 0))) H → va_D A ((sM h a r aw bw cI cJ hei dra rai σ) ++ (gr q rr cZ cB (fun _ => 0))) → va_S A s.heap H locs → lv_has ls 6 [(0, .ref h), (1, .int (nI 1)), (2, .int v), (3, .ref q), (4, .int (nI x)), (5, .int (nI y))] → W p l e rm_X2_told s m args below meth c H locs 9 72 Q (F0 m 24 ls []) := by
          intro fuy
          induction fuy with
          | zero =>
            intro y hiy v H locs ls hv hP hD hS hl
            obtain rfl : 8 = y := by omega
            refine lv_iload hx hb dX2_told_24 (lv_at hl 5 rfl) ?_
            refine lv_bipush (v := 8) hx hb dX2_told_26 (by decide) ?_
            refine lv_icmp_ge (tgt := 152) hx hb dX2_told_28 (by decide) (fun hc2 => ?_) (fun hc2 => ?_)
            · skip
              refine lv_iinc (v := (nI (x + 1))) (lv' := [(4, .int (nI (x + 1))), (0, .ref h), (1, .int (nI 1)), (2, .int v), (3, .ref q), (5, .int (nI 8))]) hx hb dX2_told_152 hl (k := 4) rfl (nI_1 x) (by decide) rfl (fun ls hl => ?_)
              refine lv_goto (tgt := 14) hx hb dX2_told_155 (by decide) ?_
              exact ihx (x + 1) (by omega) v H locs ls hv hP hD hS (lv_sub hl [1, 2, 3, 4, 0] rfl)
            · skip
              exact absurd (show (8 : Int32) ≤ nI 8 by decide) hc2
          | succ fuy ihy =>
            intro y hiy v H locs ls hv hP hD hS hl
            have hy8 : y < 8 := by omega
            refine lv_iload hx hb dX2_told_24 (lv_at hl 5 rfl) ?_
            refine lv_bipush (v := 8) hx hb dX2_told_26 (by decide) ?_
            refine lv_icmp_ge (tgt := 152) hx hb dX2_told_28 (by decide) (fun hc2 => ?_) (fun hc2 => ?_)
            · skip
              exact absurd hc2 (nI_ge (b := 8) hy8 (by decide))
            · skip
              have hi64 : 8 * x + y < 64 := by omega
              have hk64 : od (8 * x + y) < 64 := od_lt hi64
              refine lv_iload_n hx hb dX2_told_31 rfl (lv_at hl 1 rfl) ?_
              refine lv_iconst (v := 1) hx hb dX2_told_32 (by decide) ?_
              refine lv_icmp_ne (tgt := 49) hx hb dX2_told_33 (by decide) (fun hs => ?_) (fun hs => ?_)
              · first | exact absurd hs (by decide) | exact absurd (by decide) hs
              refine lv_iload_n hx hb dX2_told_36 rfl (lv_at hl 2 rfl) ?_
              refine lv_aload_n hx hb dX2_told_37 rfl (lv_at hl 0 rfl) ?_
              refine va_get (D := D) (ci := 2) (v := .ref aw) (C := RX2) (T := TX2) (N := 11) hx hb hts (fun _ h9 => (List.mem_cons_of_mem _ (List.mem_append_right _ h9))) hown hK hP 0 rfl rfl 1 (by decide) (hts (Cond.fieldLink RX2 14 "FloodGridLaw$Sim" "water" "[[I") (List.mem_of_getElem? (i := 3) rfl)) (fun _ h9 => h9) rfl dX2_told_38 ?_
              refine lv_iload hx hb dX2_told_41 (lv_at hl 4 rfl) ?_
              refine gr_aald hx hb hK hP 10 1 rfl rfl x rfl (by omega) (by decide) dX2_told_43 ?_
              refine lv_iload hx hb dX2_told_44 (lv_at hl 5 rfl) ?_
              refine gr_iald (v := (m_wat σ) (od (8 * x + y))) hx hb hK hP 11 0 rfl rfl x y (od (8 * x + y)) (by omega) (by omega) (od_at hx8 hy8).symm rfl rfl dX2_told_46 ?_
              refine lv_iadd hx hb dX2_told_47 ?_
              refine lv_istore_n (lv' := [(2, .int (v + ((m_wat σ) (od (8 * x + y))))), (0, .ref h), (1, .int (nI 1)), (3, .ref q), (4, .int (nI x)), (5, .int (nI y))]) hx hb dX2_told_48 rfl hl (by decide) rfl (fun ls hl => ?_)
              refine lv_iload_n hx hb dX2_told_49 rfl (lv_at hl 2 rfl) ?_
              refine lv_iconst (v := 2) hx hb dX2_told_50 (by decide) ?_
              refine lv_icmp_ne (tgt := 75) hx hb dX2_told_51 (by decide) (fun hs => ?_) (fun hs => ?_)
              rotate_left
              · first | exact absurd hs (by decide) | exact absurd (by decide) hs
              refine lv_iload_n hx hb dX2_told_75 rfl (lv_at hl 2 rfl) ?_
              refine lv_iconst (v := 3) hx hb dX2_told_76 (by decide) ?_
              refine lv_icmp_ne (tgt := 101) hx hb dX2_told_77 (by decide) (fun hs => ?_) (fun hs => ?_)
              rotate_left
              · first | exact absurd hs (by decide) | exact absurd (by decide) hs
              refine lv_iload_n hx hb dX2_told_101 rfl (lv_at hl 2 rfl) ?_
              refine lv_bipush (v := 6) hx hb dX2_told_102 (by decide) ?_
              refine lv_icmp_ne (tgt := 120) hx hb dX2_told_104 (by decide) (fun hs => ?_) (fun hs => ?_)
              rotate_left
              · first | exact absurd hs (by decide) | exact absurd (by decide) hs
              refine lv_iload_n hx hb dX2_told_120 rfl (lv_at hl 2 rfl) ?_
              refine lv_bipush (v := 8) hx hb dX2_told_121 (by decide) ?_
              refine lv_icmp_ne (tgt := 146) hx hb dX2_told_123 (by decide) (fun hs => ?_) (fun hs => ?_)
              rotate_left
              · first | exact absurd hs (by decide) | exact absurd (by decide) hs
              refine lv_iinc (v := (nI (y + 1))) (lv' := [(5, .int (nI (y + 1))), (2, .int (v + ((m_wat σ) (od (8 * x + y))))), (0, .ref h), (1, .int (nI 1)), (3, .ref q), (4, .int (nI x))]) hx hb dX2_told_146 hl (k := 5) rfl (nI_1 y) (by decide) rfl (fun ls hl => ?_)
              refine lv_goto (tgt := 24) hx hb dX2_told_149 (by decide) ?_
              exact ihy (y + 1) (by omega) (v + (m_wat σ) (od (8 * x + y))) H locs ls (by rw [hv]; exact so_up (m_wat σ) _ _ rfl) hP hD hS (lv_sub hl [2, 3, 1, 4, 5, 0] rfl)
        exact ly 8 0 (by omega) v H locs ls hv hP hD hS (lv_sub hl [1, 2, 3, 4, 5, 0] rfl)
  exact lx 8 0 (by omega) 0 H locs ls (Int32.add_zero _).symm hP hD hS (lv_sub hl [3, 4, 2, 1, 0] rfl)
set_option maxHeartbeats 4000000 in
set_option maxRecDepth 100000 in
theorem c_X2_told2 (l : Launch) (D : va_G) (cI cJ cZ cB : ClassId) (κ : Kx) (h : Nat) (a : Nat → Nat) (r : Nat → Nat → Nat) (aw : Nat) (bw : Nat → Nat) (hei dra rai : Nat → Int32) (σ : Ms) (hw0 : ∀ c, c < 64 → 0 ≤ m_wat σ c) : cg_i (S := Unit) l D yX2_told wsX2_told rm_X2_told [.ref h, .int (nI 2)] (sM h a r aw bw cI cJ hei dra rai σ) [(cI, .int), (cJ, .array .int), (cZ, .boolean), (cB, .array .boolean)] κ (fun v _ => v = q_tally σ 2) (fun _ => (sM h a r aw bw cI cJ hei dra rai σ)) := by
  refine cg_ofi (cc := cX2_told) (maxL := 6) (by decide) rfl (Nat.le_of_ble_eq_true rfl) ?_
  intro p e s m args below meth c A Q C0 H locs hP hD hS fin ls hl
  obtain ⟨hx, hb, hml, hown, hts, hA, hK, hX⟩ := C0
  have hown : s.vm.findClass RX2 = some m.cls := hown
  have hl : lv_has ls 6 [(0, .ref h), (1, .int (nI 2))] := hl
  refine lv_iconst (v := 0) hx hb dX2_told_0 (by decide) ?_
  refine lv_istore_n (lv' := [(2, .int 0), (0, .ref h), (1, .int (nI 2))]) hx hb dX2_told_1 rfl hl (by decide) rfl (fun ls hl => ?_)
  refine lv_bipush (v := 8) hx hb dX2_told_2 (by decide) ?_
  refine lv_bipush (v := 8) hx hb dX2_told_4 (by decide) ?_
  refine gr_mnz (cells1 := 9) (slots1 := 72) hx hb hown (hts (Cond.classLink RX2 59 "[[Z") (List.mem_of_getElem? (i := 1) rfl)) hX.2.2.1 (hts (Cond.arrayClass .boolean) (List.mem_of_getElem? (i := 2) rfl)) 2 3 rfl rfl hK hP hD hS hA 8 8 rfl rfl (by decide) (by decide) rfl rfl (Nat.le_of_ble_eq_true rfl) (Nat.le_of_ble_eq_true rfl) dX2_told_6 (fun q rr H hP hD hS => ?_)
  have hP : va_P D vwCl ((sM h a r aw bw cI cJ hei dra rai σ) ++ (gr q rr cZ cB (fun _ => 0))) H := hP
  have hD : va_D A ((sM h a r aw bw cI cJ hei dra rai σ) ++ (gr q rr cZ cB (fun _ => 0))) := hD
  refine lv_astore_n (lv' := [(3, .ref q), (2, .int 0), (0, .ref h), (1, .int (nI 2))]) hx hb dX2_told_10 rfl hl (by decide) rfl (fun ls hl => ?_)
  refine lv_iconst (v := 0) hx hb dX2_told_11 (by decide) ?_
  refine lv_istore (lv' := [(4, .int 0), (3, .ref q), (2, .int 0), (0, .ref h), (1, .int (nI 2))]) hx hb dX2_told_12 hl (by decide) rfl (fun ls hl => ?_)
  have lx : ∀ (fux x : Nat), x + fux = 8 → ∀ (v : Int32) (H : Heap) (locs : List Loc) (ls : Array Slot), (v = 0 + q_sum (fun j => (q_pos (m_wat σ)) (od j)) (8 * x)) → va_P D vwCl ((sM h a r aw bw cI cJ hei dra rai σ) ++ (gr q rr cZ cB (fun _ => 0))) H → va_D A ((sM h a r aw bw cI cJ hei dra rai σ) ++ (gr q rr cZ cB (fun _ => 0))) → va_S A s.heap H locs → lv_has ls 6 [(0, .ref h), (1, .int (nI 2)), (2, .int v), (3, .ref q), (4, .int (nI x))] → W p l e rm_X2_told s m args below meth c H locs 9 72 Q (F0 m 14 ls []) := by
    intro fux
    induction fux with
    | zero =>
      intro x hix v H locs ls hv hP hD hS hl
      obtain rfl : 8 = x := by omega
      refine lv_iload hx hb dX2_told_14 (lv_at hl 4 rfl) ?_
      refine lv_bipush (v := 8) hx hb dX2_told_16 (by decide) ?_
      refine lv_icmp_ge (tgt := 158) hx hb dX2_told_18 (by decide) (fun hc => ?_) (fun hc => ?_)
      · skip
        have hP := gp_left hP
        have hD := gp_leftD hD
        refine lv_iload_n hx hb dX2_told_158 rfl (lv_at hl 1 rfl) ?_
        refine lv_if_ne (tgt := 169) hx hb dX2_told_159 (by decide) (fun hs => ?_) (fun hs => ?_)
        rotate_left
        · first | exact absurd hs (by decide) | exact absurd (by decide) hs
        refine lv_iload_n hx hb dX2_told_169 rfl (lv_at hl 1 rfl) ?_
        refine lv_iconst (v := 4) hx hb dX2_told_170 (by decide) ?_
        refine lv_icmp_ne (tgt := 181) hx hb dX2_told_171 (by decide) (fun hs => ?_) (fun hs => ?_)
        rotate_left
        · first | exact absurd hs (by decide) | exact absurd (by decide) hs
        refine lv_iload_n hx hb dX2_told_181 rfl (lv_at hl 1 rfl) ?_
        refine lv_iconst (v := 5) hx hb dX2_told_182 (by decide) ?_
        refine lv_icmp_ne (tgt := 193) hx hb dX2_told_183 (by decide) (fun hs => ?_) (fun hs => ?_)
        rotate_left
        · first | exact absurd hs (by decide) | exact absurd (by decide) hs
        refine lv_iload_n hx hb dX2_told_193 rfl (lv_at hl 1 rfl) ?_
        refine lv_bipush (v := 7) hx hb dX2_told_194 (by decide) ?_
        refine lv_icmp_ne (tgt := 206) hx hb dX2_told_196 (by decide) (fun hs => ?_) (fun hs => ?_)
        rotate_left
        · first | exact absurd hs (by decide) | exact absurd (by decide) hs
        refine lv_iload_n hx hb dX2_told_206 rfl (lv_at hl 2 rfl) ?_
        exact fin v () H locs 9 72 207 ls dX2_told_207 (by rw [hv, Int32.zero_add]; exact so_64 (q_pos (m_wat σ))) hP hD hS (Nat.le_of_ble_eq_true rfl) (Nat.le_of_ble_eq_true rfl)
      · skip
        exact absurd (show (8 : Int32) ≤ nI 8 by decide) hc
    | succ fux ihx =>
      intro x hix v H locs ls hv hP hD hS hl
      have hx8 : x < 8 := by omega
      refine lv_iload hx hb dX2_told_14 (lv_at hl 4 rfl) ?_
      refine lv_bipush (v := 8) hx hb dX2_told_16 (by decide) ?_
      refine lv_icmp_ge (tgt := 158) hx hb dX2_told_18 (by decide) (fun hc => ?_) (fun hc => ?_)
      · skip
        exact absurd hc (nI_ge (b := 8) hx8 (by decide))
      · skip
        refine lv_iconst (v := 0) hx hb dX2_told_21 (by decide) ?_
        refine lv_istore (lv' := [(5, .int 0), (0, .ref h), (1, .int (nI 2)), (2, .int v), (3, .ref q), (4, .int (nI x))]) hx hb dX2_told_22 hl (by decide) rfl (fun ls hl => ?_)
        have ly : ∀ (fuy y : Nat), y + fuy = 8 → ∀ (v : Int32) (H : Heap) (locs : List Loc) (ls : Array Slot), (v = 0 + q_sum (fun j => (q_pos (m_wat σ)) (od j)) (8 * x + y)) → va_P D vwCl ((sM h a r aw bw cI cJ hei dra rai σ) ++ (gr q rr cZ cB (fun _ => 0))) H → va_D A ((sM h a r aw bw cI cJ hei dra rai σ) ++ (gr q rr cZ cB (fun _ => 0))) → va_S A s.heap H locs → lv_has ls 6 [(0, .ref h), (1, .int (nI 2)), (2, .int v), (3, .ref q), (4, .int (nI x)), (5, .int (nI y))] → W p l e rm_X2_told s m args below meth c H locs 9 72 Q (F0 m 24 ls []) := by
          intro fuy
          induction fuy with
          | zero =>
            intro y hiy v H locs ls hv hP hD hS hl
            obtain rfl : 8 = y := by omega
            refine lv_iload hx hb dX2_told_24 (lv_at hl 5 rfl) ?_
            refine lv_bipush (v := 8) hx hb dX2_told_26 (by decide) ?_
            refine lv_icmp_ge (tgt := 152) hx hb dX2_told_28 (by decide) (fun hc2 => ?_) (fun hc2 => ?_)
            · skip
              refine lv_iinc (v := (nI (x + 1))) (lv' := [(4, .int (nI (x + 1))), (0, .ref h), (1, .int (nI 2)), (2, .int v), (3, .ref q), (5, .int (nI 8))]) hx hb dX2_told_152 hl (k := 4) rfl (nI_1 x) (by decide) rfl (fun ls hl => ?_)
              refine lv_goto (tgt := 14) hx hb dX2_told_155 (by decide) ?_
              exact ihx (x + 1) (by omega) v H locs ls hv hP hD hS (lv_sub hl [1, 2, 3, 4, 0] rfl)
            · skip
              exact absurd (show (8 : Int32) ≤ nI 8 by decide) hc2
          | succ fuy ihy =>
            intro y hiy v H locs ls hv hP hD hS hl
            have hy8 : y < 8 := by omega
            refine lv_iload hx hb dX2_told_24 (lv_at hl 5 rfl) ?_
            refine lv_bipush (v := 8) hx hb dX2_told_26 (by decide) ?_
            refine lv_icmp_ge (tgt := 152) hx hb dX2_told_28 (by decide) (fun hc2 => ?_) (fun hc2 => ?_)
            · skip
              exact absurd hc2 (nI_ge (b := 8) hy8 (by decide))
            · skip
              have hi64 : 8 * x + y < 64 := by omega
              have hk64 : od (8 * x + y) < 64 := od_lt hi64
              refine lv_iload_n hx hb dX2_told_31 rfl (lv_at hl 1 rfl) ?_
              refine lv_iconst (v := 1) hx hb dX2_told_32 (by decide) ?_
              refine lv_icmp_ne (tgt := 49) hx hb dX2_told_33 (by decide) (fun hs => ?_) (fun hs => ?_)
              rotate_left
              · first | exact absurd hs (by decide) | exact absurd (by decide) hs
              refine lv_iload_n hx hb dX2_told_49 rfl (lv_at hl 1 rfl) ?_
              refine lv_iconst (v := 2) hx hb dX2_told_50 (by decide) ?_
              refine lv_icmp_ne (tgt := 75) hx hb dX2_told_51 (by decide) (fun hs => ?_) (fun hs => ?_)
              · first | exact absurd hs (by decide) | exact absurd (by decide) hs
              refine lv_iload_n hx hb dX2_told_54 rfl (lv_at hl 2 rfl) ?_
              refine lv_aload_n hx hb dX2_told_55 rfl (lv_at hl 0 rfl) ?_
              refine va_get (D := D) (ci := 2) (v := .ref aw) (C := RX2) (T := TX2) (N := 11) hx hb hts (fun _ h9 => (List.mem_cons_of_mem _ (List.mem_append_right _ h9))) hown hK hP 0 rfl rfl 1 (by decide) (hts (Cond.fieldLink RX2 14 "FloodGridLaw$Sim" "water" "[[I") (List.mem_of_getElem? (i := 3) rfl)) (fun _ h9 => h9) rfl dX2_told_56 ?_
              refine lv_iload hx hb dX2_told_59 (lv_at hl 4 rfl) ?_
              refine gr_aald hx hb hK hP 10 1 rfl rfl x rfl (by omega) (by decide) dX2_told_61 ?_
              refine lv_iload hx hb dX2_told_62 (lv_at hl 5 rfl) ?_
              refine gr_iald (v := (m_wat σ) (od (8 * x + y))) hx hb hK hP 11 0 rfl rfl x y (od (8 * x + y)) (by omega) (by omega) (od_at hx8 hy8).symm rfl rfl dX2_told_64 ?_
              refine lv_if_le (tgt := 72) hx hb dX2_told_65 (by decide) (fun hc3 => ?_) (fun hc3 => ?_)
              · skip
                refine lv_iconst (v := 0) hx hb dX2_told_72 (by decide) ?_
                refine lv_iadd hx hb dX2_told_73 ?_
                refine lv_istore_n (lv' := [(2, .int (v + 0)), (0, .ref h), (1, .int (nI 2)), (3, .ref q), (4, .int (nI x)), (5, .int (nI y))]) hx hb dX2_told_74 rfl hl (by decide) rfl (fun ls hl => ?_)
                refine lv_iload_n hx hb dX2_told_75 rfl (lv_at hl 2 rfl) ?_
                refine lv_iconst (v := 3) hx hb dX2_told_76 (by decide) ?_
                refine lv_icmp_ne (tgt := 101) hx hb dX2_told_77 (by decide) (fun hs => ?_) (fun hs => ?_)
                rotate_left
                · first | exact absurd hs (by decide) | exact absurd (by decide) hs
                refine lv_iload_n hx hb dX2_told_101 rfl (lv_at hl 2 rfl) ?_
                refine lv_bipush (v := 6) hx hb dX2_told_102 (by decide) ?_
                refine lv_icmp_ne (tgt := 120) hx hb dX2_told_104 (by decide) (fun hs => ?_) (fun hs => ?_)
                rotate_left
                · first | exact absurd hs (by decide) | exact absurd (by decide) hs
                refine lv_iload_n hx hb dX2_told_120 rfl (lv_at hl 2 rfl) ?_
                refine lv_bipush (v := 8) hx hb dX2_told_121 (by decide) ?_
                refine lv_icmp_ne (tgt := 146) hx hb dX2_told_123 (by decide) (fun hs => ?_) (fun hs => ?_)
                rotate_left
                · first | exact absurd hs (by decide) | exact absurd (by decide) hs
                refine lv_iinc (v := (nI (y + 1))) (lv' := [(5, .int (nI (y + 1))), (2, .int (v + 0)), (0, .ref h), (1, .int (nI 2)), (3, .ref q), (4, .int (nI x))]) hx hb dX2_told_146 hl (k := 5) rfl (nI_1 y) (by decide) rfl (fun ls hl => ?_)
                refine lv_goto (tgt := 24) hx hb dX2_told_149 (by decide) ?_
                exact ihy (y + 1) (by omega) (v + 0) H locs ls (by rw [hv, Int32.add_zero]; exact so_no (q_pos (m_wat σ)) _ _ (if_neg (Int32.not_lt.mpr hc3))) hP hD hS (lv_sub hl [2, 3, 1, 4, 5, 0] rfl)
              · skip
                refine lv_iconst (v := 1) hx hb dX2_told_68 (by decide) ?_
                refine lv_goto (tgt := 73) hx hb dX2_told_69 (by decide) ?_
                refine lv_iadd hx hb dX2_told_73 ?_
                refine lv_istore_n (lv' := [(2, .int (v + 1)), (0, .ref h), (1, .int (nI 2)), (3, .ref q), (4, .int (nI x)), (5, .int (nI y))]) hx hb dX2_told_74 rfl hl (by decide) rfl (fun ls hl => ?_)
                refine lv_iload_n hx hb dX2_told_75 rfl (lv_at hl 2 rfl) ?_
                refine lv_iconst (v := 3) hx hb dX2_told_76 (by decide) ?_
                refine lv_icmp_ne (tgt := 101) hx hb dX2_told_77 (by decide) (fun hs => ?_) (fun hs => ?_)
                rotate_left
                · first | exact absurd hs (by decide) | exact absurd (by decide) hs
                refine lv_iload_n hx hb dX2_told_101 rfl (lv_at hl 2 rfl) ?_
                refine lv_bipush (v := 6) hx hb dX2_told_102 (by decide) ?_
                refine lv_icmp_ne (tgt := 120) hx hb dX2_told_104 (by decide) (fun hs => ?_) (fun hs => ?_)
                rotate_left
                · first | exact absurd hs (by decide) | exact absurd (by decide) hs
                refine lv_iload_n hx hb dX2_told_120 rfl (lv_at hl 2 rfl) ?_
                refine lv_bipush (v := 8) hx hb dX2_told_121 (by decide) ?_
                refine lv_icmp_ne (tgt := 146) hx hb dX2_told_123 (by decide) (fun hs => ?_) (fun hs => ?_)
                rotate_left
                · first | exact absurd hs (by decide) | exact absurd (by decide) hs
                refine lv_iinc (v := (nI (y + 1))) (lv' := [(5, .int (nI (y + 1))), (2, .int (v + 1)), (0, .ref h), (1, .int (nI 2)), (3, .ref q), (4, .int (nI x))]) hx hb dX2_told_146 hl (k := 5) rfl (nI_1 y) (by decide) rfl (fun ls hl => ?_)
                refine lv_goto (tgt := 24) hx hb dX2_told_149 (by decide) ?_
                exact ihy (y + 1) (by omega) (v + 1) H locs ls (by rw [hv]; exact so_up (q_pos (m_wat σ)) _ _ (if_pos (Int32.not_le.mp hc3)).symm) hP hD hS (lv_sub hl [2, 3, 1, 4, 5, 0] rfl)
        exact ly 8 0 (by omega) v H locs ls hv hP hD hS (lv_sub hl [1, 2, 3, 4, 5, 0] rfl)
  exact lx 8 0 (by omega) 0 H locs ls (Int32.add_zero _).symm hP hD hS (lv_sub hl [3, 4, 2, 1, 0] rfl)
set_option maxHeartbeats 4000000 in
set_option maxRecDepth 100000 in
theorem c_X2_told3 (l : Launch) (D : va_G) (cI cJ cZ cB : ClassId) (κ : Kx) (h : Nat) (a : Nat → Nat) (r : Nat → Nat → Nat) (aw : Nat) (bw : Nat → Nat) (hei dra rai : Nat → Int32) (σ : Ms) (hw0 : ∀ c, c < 64 → 0 ≤ m_wat σ c) : cg_i (S := Unit) l D yX2_told wsX2_told rm_X2_told [.ref h, .int (nI 3)] (sM h a r aw bw cI cJ hei dra rai σ) [(cI, .int), (cJ, .array .int), (cZ, .boolean), (cB, .array .boolean)] κ (fun v _ => v = q_tally σ 3) (fun _ => (sM h a r aw bw cI cJ hei dra rai σ)) := by
  refine cg_ofi (cc := cX2_told) (maxL := 6) (by decide) rfl (Nat.le_of_ble_eq_true rfl) ?_
  intro p e s m args below meth c A Q C0 H locs hP hD hS fin ls hl
  obtain ⟨hx, hb, hml, hown, hts, hA, hK, hX⟩ := C0
  have hown : s.vm.findClass RX2 = some m.cls := hown
  have hl : lv_has ls 6 [(0, .ref h), (1, .int (nI 3))] := hl
  refine lv_iconst (v := 0) hx hb dX2_told_0 (by decide) ?_
  refine lv_istore_n (lv' := [(2, .int 0), (0, .ref h), (1, .int (nI 3))]) hx hb dX2_told_1 rfl hl (by decide) rfl (fun ls hl => ?_)
  refine lv_bipush (v := 8) hx hb dX2_told_2 (by decide) ?_
  refine lv_bipush (v := 8) hx hb dX2_told_4 (by decide) ?_
  refine gr_mnz (cells1 := 9) (slots1 := 72) hx hb hown (hts (Cond.classLink RX2 59 "[[Z") (List.mem_of_getElem? (i := 1) rfl)) hX.2.2.1 (hts (Cond.arrayClass .boolean) (List.mem_of_getElem? (i := 2) rfl)) 2 3 rfl rfl hK hP hD hS hA 8 8 rfl rfl (by decide) (by decide) rfl rfl (Nat.le_of_ble_eq_true rfl) (Nat.le_of_ble_eq_true rfl) dX2_told_6 (fun q rr H hP hD hS => ?_)
  have hP : va_P D vwCl ((sM h a r aw bw cI cJ hei dra rai σ) ++ (gr q rr cZ cB (fun _ => 0))) H := hP
  have hD : va_D A ((sM h a r aw bw cI cJ hei dra rai σ) ++ (gr q rr cZ cB (fun _ => 0))) := hD
  refine lv_astore_n (lv' := [(3, .ref q), (2, .int 0), (0, .ref h), (1, .int (nI 3))]) hx hb dX2_told_10 rfl hl (by decide) rfl (fun ls hl => ?_)
  refine lv_iconst (v := 0) hx hb dX2_told_11 (by decide) ?_
  refine lv_istore (lv' := [(4, .int 0), (3, .ref q), (2, .int 0), (0, .ref h), (1, .int (nI 3))]) hx hb dX2_told_12 hl (by decide) rfl (fun ls hl => ?_)
  have lx : ∀ (fux x : Nat), x + fux = 8 → ∀ (v : Int32) (H : Heap) (locs : List Loc) (ls : Array Slot), (v = 0 + q_sum (fun j => (q_pos (m_dam σ)) (od j)) (8 * x)) → va_P D vwCl ((sM h a r aw bw cI cJ hei dra rai σ) ++ (gr q rr cZ cB (fun _ => 0))) H → va_D A ((sM h a r aw bw cI cJ hei dra rai σ) ++ (gr q rr cZ cB (fun _ => 0))) → va_S A s.heap H locs → lv_has ls 6 [(0, .ref h), (1, .int (nI 3)), (2, .int v), (3, .ref q), (4, .int (nI x))] → W p l e rm_X2_told s m args below meth c H locs 9 72 Q (F0 m 14 ls []) := by
    intro fux
    induction fux with
    | zero =>
      intro x hix v H locs ls hv hP hD hS hl
      obtain rfl : 8 = x := by omega
      refine lv_iload hx hb dX2_told_14 (lv_at hl 4 rfl) ?_
      refine lv_bipush (v := 8) hx hb dX2_told_16 (by decide) ?_
      refine lv_icmp_ge (tgt := 158) hx hb dX2_told_18 (by decide) (fun hc => ?_) (fun hc => ?_)
      · skip
        have hP := gp_left hP
        have hD := gp_leftD hD
        refine lv_iload_n hx hb dX2_told_158 rfl (lv_at hl 1 rfl) ?_
        refine lv_if_ne (tgt := 169) hx hb dX2_told_159 (by decide) (fun hs => ?_) (fun hs => ?_)
        rotate_left
        · first | exact absurd hs (by decide) | exact absurd (by decide) hs
        refine lv_iload_n hx hb dX2_told_169 rfl (lv_at hl 1 rfl) ?_
        refine lv_iconst (v := 4) hx hb dX2_told_170 (by decide) ?_
        refine lv_icmp_ne (tgt := 181) hx hb dX2_told_171 (by decide) (fun hs => ?_) (fun hs => ?_)
        rotate_left
        · first | exact absurd hs (by decide) | exact absurd (by decide) hs
        refine lv_iload_n hx hb dX2_told_181 rfl (lv_at hl 1 rfl) ?_
        refine lv_iconst (v := 5) hx hb dX2_told_182 (by decide) ?_
        refine lv_icmp_ne (tgt := 193) hx hb dX2_told_183 (by decide) (fun hs => ?_) (fun hs => ?_)
        rotate_left
        · first | exact absurd hs (by decide) | exact absurd (by decide) hs
        refine lv_iload_n hx hb dX2_told_193 rfl (lv_at hl 1 rfl) ?_
        refine lv_bipush (v := 7) hx hb dX2_told_194 (by decide) ?_
        refine lv_icmp_ne (tgt := 206) hx hb dX2_told_196 (by decide) (fun hs => ?_) (fun hs => ?_)
        rotate_left
        · first | exact absurd hs (by decide) | exact absurd (by decide) hs
        refine lv_iload_n hx hb dX2_told_206 rfl (lv_at hl 2 rfl) ?_
        exact fin v () H locs 9 72 207 ls dX2_told_207 (by rw [hv, Int32.zero_add]; exact so_64 (q_pos (m_dam σ))) hP hD hS (Nat.le_of_ble_eq_true rfl) (Nat.le_of_ble_eq_true rfl)
      · skip
        exact absurd (show (8 : Int32) ≤ nI 8 by decide) hc
    | succ fux ihx =>
      intro x hix v H locs ls hv hP hD hS hl
      have hx8 : x < 8 := by omega
      refine lv_iload hx hb dX2_told_14 (lv_at hl 4 rfl) ?_
      refine lv_bipush (v := 8) hx hb dX2_told_16 (by decide) ?_
      refine lv_icmp_ge (tgt := 158) hx hb dX2_told_18 (by decide) (fun hc => ?_) (fun hc => ?_)
      · skip
        exact absurd hc (nI_ge (b := 8) hx8 (by decide))
      · skip
        refine lv_iconst (v := 0) hx hb dX2_told_21 (by decide) ?_
        refine lv_istore (lv' := [(5, .int 0), (0, .ref h), (1, .int (nI 3)), (2, .int v), (3, .ref q), (4, .int (nI x))]) hx hb dX2_told_22 hl (by decide) rfl (fun ls hl => ?_)
        have ly : ∀ (fuy y : Nat), y + fuy = 8 → ∀ (v : Int32) (H : Heap) (locs : List Loc) (ls : Array Slot), (v = 0 + q_sum (fun j => (q_pos (m_dam σ)) (od j)) (8 * x + y)) → va_P D vwCl ((sM h a r aw bw cI cJ hei dra rai σ) ++ (gr q rr cZ cB (fun _ => 0))) H → va_D A ((sM h a r aw bw cI cJ hei dra rai σ) ++ (gr q rr cZ cB (fun _ => 0))) → va_S A s.heap H locs → lv_has ls 6 [(0, .ref h), (1, .int (nI 3)), (2, .int v), (3, .ref q), (4, .int (nI x)), (5, .int (nI y))] → W p l e rm_X2_told s m args below meth c H locs 9 72 Q (F0 m 24 ls []) := by
          intro fuy
          induction fuy with
          | zero =>
            intro y hiy v H locs ls hv hP hD hS hl
            obtain rfl : 8 = y := by omega
            refine lv_iload hx hb dX2_told_24 (lv_at hl 5 rfl) ?_
            refine lv_bipush (v := 8) hx hb dX2_told_26 (by decide) ?_
            refine lv_icmp_ge (tgt := 152) hx hb dX2_told_28 (by decide) (fun hc2 => ?_) (fun hc2 => ?_)
            · skip
              refine lv_iinc (v := (nI (x + 1))) (lv' := [(4, .int (nI (x + 1))), (0, .ref h), (1, .int (nI 3)), (2, .int v), (3, .ref q), (5, .int (nI 8))]) hx hb dX2_told_152 hl (k := 4) rfl (nI_1 x) (by decide) rfl (fun ls hl => ?_)
              refine lv_goto (tgt := 14) hx hb dX2_told_155 (by decide) ?_
              exact ihx (x + 1) (by omega) v H locs ls hv hP hD hS (lv_sub hl [1, 2, 3, 4, 0] rfl)
            · skip
              exact absurd (show (8 : Int32) ≤ nI 8 by decide) hc2
          | succ fuy ihy =>
            intro y hiy v H locs ls hv hP hD hS hl
            have hy8 : y < 8 := by omega
            refine lv_iload hx hb dX2_told_24 (lv_at hl 5 rfl) ?_
            refine lv_bipush (v := 8) hx hb dX2_told_26 (by decide) ?_
            refine lv_icmp_ge (tgt := 152) hx hb dX2_told_28 (by decide) (fun hc2 => ?_) (fun hc2 => ?_)
            · skip
              exact absurd hc2 (nI_ge (b := 8) hy8 (by decide))
            · skip
              have hi64 : 8 * x + y < 64 := by omega
              have hk64 : od (8 * x + y) < 64 := od_lt hi64
              refine lv_iload_n hx hb dX2_told_31 rfl (lv_at hl 1 rfl) ?_
              refine lv_iconst (v := 1) hx hb dX2_told_32 (by decide) ?_
              refine lv_icmp_ne (tgt := 49) hx hb dX2_told_33 (by decide) (fun hs => ?_) (fun hs => ?_)
              rotate_left
              · first | exact absurd hs (by decide) | exact absurd (by decide) hs
              refine lv_iload_n hx hb dX2_told_49 rfl (lv_at hl 1 rfl) ?_
              refine lv_iconst (v := 2) hx hb dX2_told_50 (by decide) ?_
              refine lv_icmp_ne (tgt := 75) hx hb dX2_told_51 (by decide) (fun hs => ?_) (fun hs => ?_)
              rotate_left
              · first | exact absurd hs (by decide) | exact absurd (by decide) hs
              refine lv_iload_n hx hb dX2_told_75 rfl (lv_at hl 1 rfl) ?_
              refine lv_iconst (v := 3) hx hb dX2_told_76 (by decide) ?_
              refine lv_icmp_ne (tgt := 101) hx hb dX2_told_77 (by decide) (fun hs => ?_) (fun hs => ?_)
              · first | exact absurd hs (by decide) | exact absurd (by decide) hs
              refine lv_iload_n hx hb dX2_told_80 rfl (lv_at hl 2 rfl) ?_
              refine lv_aload_n hx hb dX2_told_81 rfl (lv_at hl 0 rfl) ?_
              refine va_get (D := D) (ci := 2) (v := .ref (a 2)) (C := RX2) (T := TX2) (N := 11) hx hb hts (fun _ h9 => (List.mem_cons_of_mem _ (List.mem_append_right _ h9))) hown hK hP 0 rfl rfl 2 (by decide) (hts (Cond.fieldLink RX2 17 "FloodGridLaw$Sim" "dam" "[[I") (List.mem_of_getElem? (i := 4) rfl)) (fun _ h9 => h9) rfl dX2_told_82 ?_
              refine lv_iload hx hb dX2_told_85 (lv_at hl 4 rfl) ?_
              refine gr_aald hx hb hK hP 19 1 rfl rfl x rfl (by omega) (by decide) dX2_told_87 ?_
              refine lv_iload hx hb dX2_told_88 (lv_at hl 5 rfl) ?_
              refine gr_iald (v := (m_dam σ) (od (8 * x + y))) hx hb hK hP 20 0 rfl rfl x y (od (8 * x + y)) (by omega) (by omega) (od_at hx8 hy8).symm rfl rfl dX2_told_90 ?_
              refine lv_if_le (tgt := 98) hx hb dX2_told_91 (by decide) (fun hc3 => ?_) (fun hc3 => ?_)
              · skip
                refine lv_iconst (v := 0) hx hb dX2_told_98 (by decide) ?_
                refine lv_iadd hx hb dX2_told_99 ?_
                refine lv_istore_n (lv' := [(2, .int (v + 0)), (0, .ref h), (1, .int (nI 3)), (3, .ref q), (4, .int (nI x)), (5, .int (nI y))]) hx hb dX2_told_100 rfl hl (by decide) rfl (fun ls hl => ?_)
                refine lv_iload_n hx hb dX2_told_101 rfl (lv_at hl 2 rfl) ?_
                refine lv_bipush (v := 6) hx hb dX2_told_102 (by decide) ?_
                refine lv_icmp_ne (tgt := 120) hx hb dX2_told_104 (by decide) (fun hs => ?_) (fun hs => ?_)
                rotate_left
                · first | exact absurd hs (by decide) | exact absurd (by decide) hs
                refine lv_iload_n hx hb dX2_told_120 rfl (lv_at hl 2 rfl) ?_
                refine lv_bipush (v := 8) hx hb dX2_told_121 (by decide) ?_
                refine lv_icmp_ne (tgt := 146) hx hb dX2_told_123 (by decide) (fun hs => ?_) (fun hs => ?_)
                rotate_left
                · first | exact absurd hs (by decide) | exact absurd (by decide) hs
                refine lv_iinc (v := (nI (y + 1))) (lv' := [(5, .int (nI (y + 1))), (2, .int (v + 0)), (0, .ref h), (1, .int (nI 3)), (3, .ref q), (4, .int (nI x))]) hx hb dX2_told_146 hl (k := 5) rfl (nI_1 y) (by decide) rfl (fun ls hl => ?_)
                refine lv_goto (tgt := 24) hx hb dX2_told_149 (by decide) ?_
                exact ihy (y + 1) (by omega) (v + 0) H locs ls (by rw [hv, Int32.add_zero]; exact so_no (q_pos (m_dam σ)) _ _ (if_neg (Int32.not_lt.mpr hc3))) hP hD hS (lv_sub hl [2, 3, 1, 4, 5, 0] rfl)
              · skip
                refine lv_iconst (v := 1) hx hb dX2_told_94 (by decide) ?_
                refine lv_goto (tgt := 99) hx hb dX2_told_95 (by decide) ?_
                refine lv_iadd hx hb dX2_told_99 ?_
                refine lv_istore_n (lv' := [(2, .int (v + 1)), (0, .ref h), (1, .int (nI 3)), (3, .ref q), (4, .int (nI x)), (5, .int (nI y))]) hx hb dX2_told_100 rfl hl (by decide) rfl (fun ls hl => ?_)
                refine lv_iload_n hx hb dX2_told_101 rfl (lv_at hl 2 rfl) ?_
                refine lv_bipush (v := 6) hx hb dX2_told_102 (by decide) ?_
                refine lv_icmp_ne (tgt := 120) hx hb dX2_told_104 (by decide) (fun hs => ?_) (fun hs => ?_)
                rotate_left
                · first | exact absurd hs (by decide) | exact absurd (by decide) hs
                refine lv_iload_n hx hb dX2_told_120 rfl (lv_at hl 2 rfl) ?_
                refine lv_bipush (v := 8) hx hb dX2_told_121 (by decide) ?_
                refine lv_icmp_ne (tgt := 146) hx hb dX2_told_123 (by decide) (fun hs => ?_) (fun hs => ?_)
                rotate_left
                · first | exact absurd hs (by decide) | exact absurd (by decide) hs
                refine lv_iinc (v := (nI (y + 1))) (lv' := [(5, .int (nI (y + 1))), (2, .int (v + 1)), (0, .ref h), (1, .int (nI 3)), (3, .ref q), (4, .int (nI x))]) hx hb dX2_told_146 hl (k := 5) rfl (nI_1 y) (by decide) rfl (fun ls hl => ?_)
                refine lv_goto (tgt := 24) hx hb dX2_told_149 (by decide) ?_
                exact ihy (y + 1) (by omega) (v + 1) H locs ls (by rw [hv]; exact so_up (q_pos (m_dam σ)) _ _ (if_pos (Int32.not_le.mp hc3)).symm) hP hD hS (lv_sub hl [2, 3, 1, 4, 5, 0] rfl)
        exact ly 8 0 (by omega) v H locs ls hv hP hD hS (lv_sub hl [1, 2, 3, 4, 5, 0] rfl)
  exact lx 8 0 (by omega) 0 H locs ls (Int32.add_zero _).symm hP hD hS (lv_sub hl [3, 4, 2, 1, 0] rfl)
set_option maxHeartbeats 4000000 in
set_option maxRecDepth 100000 in
theorem c_X2_told4 (l : Launch) (D : va_G) (cI cJ cZ cB : ClassId) (κ : Kx) (h : Nat) (a : Nat → Nat) (r : Nat → Nat → Nat) (aw : Nat) (bw : Nat → Nat) (hei dra rai : Nat → Int32) (σ : Ms) (hw0 : ∀ c, c < 64 → 0 ≤ m_wat σ c) : cg_i (S := Unit) l D yX2_told wsX2_told rm_X2_told [.ref h, .int (nI 4)] (sM h a r aw bw cI cJ hei dra rai σ) [(cI, .int), (cJ, .array .int), (cZ, .boolean), (cB, .array .boolean)] κ (fun v _ => v = q_tally σ 4) (fun _ => (sM h a r aw bw cI cJ hei dra rai σ)) := by
  refine cg_ofi (cc := cX2_told) (maxL := 6) (by decide) rfl (Nat.le_of_ble_eq_true rfl) ?_
  intro p e s m args below meth c A Q C0 H locs hP hD hS fin ls hl
  obtain ⟨hx, hb, hml, hown, hts, hA, hK, hX⟩ := C0
  have hown : s.vm.findClass RX2 = some m.cls := hown
  have hl : lv_has ls 6 [(0, .ref h), (1, .int (nI 4))] := hl
  refine lv_iconst (v := 0) hx hb dX2_told_0 (by decide) ?_
  refine lv_istore_n (lv' := [(2, .int 0), (0, .ref h), (1, .int (nI 4))]) hx hb dX2_told_1 rfl hl (by decide) rfl (fun ls hl => ?_)
  refine lv_bipush (v := 8) hx hb dX2_told_2 (by decide) ?_
  refine lv_bipush (v := 8) hx hb dX2_told_4 (by decide) ?_
  refine gr_mnz (cells1 := 9) (slots1 := 72) hx hb hown (hts (Cond.classLink RX2 59 "[[Z") (List.mem_of_getElem? (i := 1) rfl)) hX.2.2.1 (hts (Cond.arrayClass .boolean) (List.mem_of_getElem? (i := 2) rfl)) 2 3 rfl rfl hK hP hD hS hA 8 8 rfl rfl (by decide) (by decide) rfl rfl (Nat.le_of_ble_eq_true rfl) (Nat.le_of_ble_eq_true rfl) dX2_told_6 (fun q rr H hP hD hS => ?_)
  have hP : va_P D vwCl ((sM h a r aw bw cI cJ hei dra rai σ) ++ (gr q rr cZ cB (fun _ => 0))) H := hP
  have hD : va_D A ((sM h a r aw bw cI cJ hei dra rai σ) ++ (gr q rr cZ cB (fun _ => 0))) := hD
  refine lv_astore_n (lv' := [(3, .ref q), (2, .int 0), (0, .ref h), (1, .int (nI 4))]) hx hb dX2_told_10 rfl hl (by decide) rfl (fun ls hl => ?_)
  refine lv_iconst (v := 0) hx hb dX2_told_11 (by decide) ?_
  refine lv_istore (lv' := [(4, .int 0), (3, .ref q), (2, .int 0), (0, .ref h), (1, .int (nI 4))]) hx hb dX2_told_12 hl (by decide) rfl (fun ls hl => ?_)
  have lx : ∀ (fux x : Nat), x + fux = 8 → ∀ (v : Int32) (H : Heap) (locs : List Loc) (ls : Array Slot), va_P D vwCl ((sM h a r aw bw cI cJ hei dra rai σ) ++ (gr q rr cZ cB (fun _ => 0))) H → va_D A ((sM h a r aw bw cI cJ hei dra rai σ) ++ (gr q rr cZ cB (fun _ => 0))) → va_S A s.heap H locs → lv_has ls 6 [(0, .ref h), (1, .int (nI 4)), (2, .int v), (3, .ref q), (4, .int (nI x))] → W p l e rm_X2_told s m args below meth c H locs 9 72 Q (F0 m 14 ls []) := by
    intro fux
    induction fux with
    | zero =>
      intro x hix v H locs ls  hP hD hS hl
      obtain rfl : 8 = x := by omega
      refine lv_iload hx hb dX2_told_14 (lv_at hl 4 rfl) ?_
      refine lv_bipush (v := 8) hx hb dX2_told_16 (by decide) ?_
      refine lv_icmp_ge (tgt := 158) hx hb dX2_told_18 (by decide) (fun hc => ?_) (fun hc => ?_)
      · skip
        have hP := gp_left hP
        have hD := gp_leftD hD
        refine lv_iload_n hx hb dX2_told_158 rfl (lv_at hl 1 rfl) ?_
        refine lv_if_ne (tgt := 169) hx hb dX2_told_159 (by decide) (fun hs => ?_) (fun hs => ?_)
        rotate_left
        · first | exact absurd hs (by decide) | exact absurd (by decide) hs
        refine lv_iload_n hx hb dX2_told_169 rfl (lv_at hl 1 rfl) ?_
        refine lv_iconst (v := 4) hx hb dX2_told_170 (by decide) ?_
        refine lv_icmp_ne (tgt := 181) hx hb dX2_told_171 (by decide) (fun hs => ?_) (fun hs => ?_)
        · first | exact absurd hs (by decide) | exact absurd (by decide) hs
        refine lv_aload_n hx hb dX2_told_174 rfl (lv_at hl 0 rfl) ?_
        refine va_get (D := D) (ci := 2) (v := .int (m_bro σ)) (C := RX2) (T := TX2) (N := 11) hx hb hts (fun _ h9 => (List.mem_cons_of_mem _ (List.mem_append_right _ h9))) hown hK hP 0 rfl rfl 8 (by decide) (hts (Cond.fieldLink RX2 41 "FloodGridLaw$Sim" "broke" "I") (List.mem_of_getElem? (i := 7) rfl)) (fun _ h9 => h9) rfl dX2_told_175 ?_
        refine lv_goto (tgt := 207) hx hb dX2_told_178 (by decide) ?_
        exact fin (m_bro σ) () H locs 9 72 207 ls dX2_told_207 rfl hP hD hS (Nat.le_of_ble_eq_true rfl) (Nat.le_of_ble_eq_true rfl)
      · skip
        exact absurd (show (8 : Int32) ≤ nI 8 by decide) hc
    | succ fux ihx =>
      intro x hix v H locs ls  hP hD hS hl
      have hx8 : x < 8 := by omega
      refine lv_iload hx hb dX2_told_14 (lv_at hl 4 rfl) ?_
      refine lv_bipush (v := 8) hx hb dX2_told_16 (by decide) ?_
      refine lv_icmp_ge (tgt := 158) hx hb dX2_told_18 (by decide) (fun hc => ?_) (fun hc => ?_)
      · skip
        exact absurd hc (nI_ge (b := 8) hx8 (by decide))
      · skip
        refine lv_iconst (v := 0) hx hb dX2_told_21 (by decide) ?_
        refine lv_istore (lv' := [(5, .int 0), (0, .ref h), (1, .int (nI 4)), (2, .int v), (3, .ref q), (4, .int (nI x))]) hx hb dX2_told_22 hl (by decide) rfl (fun ls hl => ?_)
        have ly : ∀ (fuy y : Nat), y + fuy = 8 → ∀ (v : Int32) (H : Heap) (locs : List Loc) (ls : Array Slot), va_P D vwCl ((sM h a r aw bw cI cJ hei dra rai σ) ++ (gr q rr cZ cB (fun _ => 0))) H → va_D A ((sM h a r aw bw cI cJ hei dra rai σ) ++ (gr q rr cZ cB (fun _ => 0))) → va_S A s.heap H locs → lv_has ls 6 [(0, .ref h), (1, .int (nI 4)), (2, .int v), (3, .ref q), (4, .int (nI x)), (5, .int (nI y))] → W p l e rm_X2_told s m args below meth c H locs 9 72 Q (F0 m 24 ls []) := by
          intro fuy
          induction fuy with
          | zero =>
            intro y hiy v H locs ls  hP hD hS hl
            obtain rfl : 8 = y := by omega
            refine lv_iload hx hb dX2_told_24 (lv_at hl 5 rfl) ?_
            refine lv_bipush (v := 8) hx hb dX2_told_26 (by decide) ?_
            refine lv_icmp_ge (tgt := 152) hx hb dX2_told_28 (by decide) (fun hc2 => ?_) (fun hc2 => ?_)
            · skip
              refine lv_iinc (v := (nI (x + 1))) (lv' := [(4, .int (nI (x + 1))), (0, .ref h), (1, .int (nI 4)), (2, .int v), (3, .ref q), (5, .int (nI 8))]) hx hb dX2_told_152 hl (k := 4) rfl (nI_1 x) (by decide) rfl (fun ls hl => ?_)
              refine lv_goto (tgt := 14) hx hb dX2_told_155 (by decide) ?_
              exact ihx (x + 1) (by omega) v H locs ls  hP hD hS (lv_sub hl [1, 2, 3, 4, 0] rfl)
            · skip
              exact absurd (show (8 : Int32) ≤ nI 8 by decide) hc2
          | succ fuy ihy =>
            intro y hiy v H locs ls  hP hD hS hl
            have hy8 : y < 8 := by omega
            refine lv_iload hx hb dX2_told_24 (lv_at hl 5 rfl) ?_
            refine lv_bipush (v := 8) hx hb dX2_told_26 (by decide) ?_
            refine lv_icmp_ge (tgt := 152) hx hb dX2_told_28 (by decide) (fun hc2 => ?_) (fun hc2 => ?_)
            · skip
              exact absurd hc2 (nI_ge (b := 8) hy8 (by decide))
            · skip
              have hi64 : 8 * x + y < 64 := by omega
              have hk64 : od (8 * x + y) < 64 := od_lt hi64
              refine lv_iload_n hx hb dX2_told_31 rfl (lv_at hl 1 rfl) ?_
              refine lv_iconst (v := 1) hx hb dX2_told_32 (by decide) ?_
              refine lv_icmp_ne (tgt := 49) hx hb dX2_told_33 (by decide) (fun hs => ?_) (fun hs => ?_)
              rotate_left
              · first | exact absurd hs (by decide) | exact absurd (by decide) hs
              refine lv_iload_n hx hb dX2_told_49 rfl (lv_at hl 1 rfl) ?_
              refine lv_iconst (v := 2) hx hb dX2_told_50 (by decide) ?_
              refine lv_icmp_ne (tgt := 75) hx hb dX2_told_51 (by decide) (fun hs => ?_) (fun hs => ?_)
              rotate_left
              · first | exact absurd hs (by decide) | exact absurd (by decide) hs
              refine lv_iload_n hx hb dX2_told_75 rfl (lv_at hl 1 rfl) ?_
              refine lv_iconst (v := 3) hx hb dX2_told_76 (by decide) ?_
              refine lv_icmp_ne (tgt := 101) hx hb dX2_told_77 (by decide) (fun hs => ?_) (fun hs => ?_)
              rotate_left
              · first | exact absurd hs (by decide) | exact absurd (by decide) hs
              refine lv_iload_n hx hb dX2_told_101 rfl (lv_at hl 1 rfl) ?_
              refine lv_bipush (v := 6) hx hb dX2_told_102 (by decide) ?_
              refine lv_icmp_ne (tgt := 120) hx hb dX2_told_104 (by decide) (fun hs => ?_) (fun hs => ?_)
              rotate_left
              · first | exact absurd hs (by decide) | exact absurd (by decide) hs
              refine lv_iload_n hx hb dX2_told_120 rfl (lv_at hl 1 rfl) ?_
              refine lv_bipush (v := 8) hx hb dX2_told_121 (by decide) ?_
              refine lv_icmp_ne (tgt := 146) hx hb dX2_told_123 (by decide) (fun hs => ?_) (fun hs => ?_)
              rotate_left
              · first | exact absurd hs (by decide) | exact absurd (by decide) hs
              refine lv_iinc (v := (nI (y + 1))) (lv' := [(5, .int (nI (y + 1))), (0, .ref h), (1, .int (nI 4)), (2, .int v), (3, .ref q), (4, .int (nI x))]) hx hb dX2_told_146 hl (k := 5) rfl (nI_1 y) (by decide) rfl (fun ls hl => ?_)
              refine lv_goto (tgt := 24) hx hb dX2_told_149 (by decide) ?_
              exact ihy (y + 1) (by omega) v H locs ls  hP hD hS (lv_sub hl [1, 2, 3, 4, 5, 0] rfl)
        exact ly 8 0 (by omega) v H locs ls  hP hD hS (lv_sub hl [1, 2, 3, 4, 5, 0] rfl)
  exact lx 8 0 (by omega) 0 H locs ls  hP hD hS (lv_sub hl [3, 4, 2, 1, 0] rfl)
set_option maxHeartbeats 4000000 in
set_option maxRecDepth 100000 in
theorem c_X2_told5 (l : Launch) (D : va_G) (cI cJ cZ cB : ClassId) (κ : Kx) (h : Nat) (a : Nat → Nat) (r : Nat → Nat → Nat) (aw : Nat) (bw : Nat → Nat) (hei dra rai : Nat → Int32) (σ : Ms) (hw0 : ∀ c, c < 64 → 0 ≤ m_wat σ c) : cg_i (S := Unit) l D yX2_told wsX2_told rm_X2_told [.ref h, .int (nI 5)] (sM h a r aw bw cI cJ hei dra rai σ) [(cI, .int), (cJ, .array .int), (cZ, .boolean), (cB, .array .boolean)] κ (fun v _ => v = q_tally σ 5) (fun _ => (sM h a r aw bw cI cJ hei dra rai σ)) := by
  refine cg_ofi (cc := cX2_told) (maxL := 6) (by decide) rfl (Nat.le_of_ble_eq_true rfl) ?_
  intro p e s m args below meth c A Q C0 H locs hP hD hS fin ls hl
  obtain ⟨hx, hb, hml, hown, hts, hA, hK, hX⟩ := C0
  have hown : s.vm.findClass RX2 = some m.cls := hown
  have hl : lv_has ls 6 [(0, .ref h), (1, .int (nI 5))] := hl
  refine lv_iconst (v := 0) hx hb dX2_told_0 (by decide) ?_
  refine lv_istore_n (lv' := [(2, .int 0), (0, .ref h), (1, .int (nI 5))]) hx hb dX2_told_1 rfl hl (by decide) rfl (fun ls hl => ?_)
  refine lv_bipush (v := 8) hx hb dX2_told_2 (by decide) ?_
  refine lv_bipush (v := 8) hx hb dX2_told_4 (by decide) ?_
  refine gr_mnz (cells1 := 9) (slots1 := 72) hx hb hown (hts (Cond.classLink RX2 59 "[[Z") (List.mem_of_getElem? (i := 1) rfl)) hX.2.2.1 (hts (Cond.arrayClass .boolean) (List.mem_of_getElem? (i := 2) rfl)) 2 3 rfl rfl hK hP hD hS hA 8 8 rfl rfl (by decide) (by decide) rfl rfl (Nat.le_of_ble_eq_true rfl) (Nat.le_of_ble_eq_true rfl) dX2_told_6 (fun q rr H hP hD hS => ?_)
  have hP : va_P D vwCl ((sM h a r aw bw cI cJ hei dra rai σ) ++ (gr q rr cZ cB (fun _ => 0))) H := hP
  have hD : va_D A ((sM h a r aw bw cI cJ hei dra rai σ) ++ (gr q rr cZ cB (fun _ => 0))) := hD
  refine lv_astore_n (lv' := [(3, .ref q), (2, .int 0), (0, .ref h), (1, .int (nI 5))]) hx hb dX2_told_10 rfl hl (by decide) rfl (fun ls hl => ?_)
  refine lv_iconst (v := 0) hx hb dX2_told_11 (by decide) ?_
  refine lv_istore (lv' := [(4, .int 0), (3, .ref q), (2, .int 0), (0, .ref h), (1, .int (nI 5))]) hx hb dX2_told_12 hl (by decide) rfl (fun ls hl => ?_)
  have lx : ∀ (fux x : Nat), x + fux = 8 → ∀ (v : Int32) (H : Heap) (locs : List Loc) (ls : Array Slot), va_P D vwCl ((sM h a r aw bw cI cJ hei dra rai σ) ++ (gr q rr cZ cB (fun _ => 0))) H → va_D A ((sM h a r aw bw cI cJ hei dra rai σ) ++ (gr q rr cZ cB (fun _ => 0))) → va_S A s.heap H locs → lv_has ls 6 [(0, .ref h), (1, .int (nI 5)), (2, .int v), (3, .ref q), (4, .int (nI x))] → W p l e rm_X2_told s m args below meth c H locs 9 72 Q (F0 m 14 ls []) := by
    intro fux
    induction fux with
    | zero =>
      intro x hix v H locs ls  hP hD hS hl
      obtain rfl : 8 = x := by omega
      refine lv_iload hx hb dX2_told_14 (lv_at hl 4 rfl) ?_
      refine lv_bipush (v := 8) hx hb dX2_told_16 (by decide) ?_
      refine lv_icmp_ge (tgt := 158) hx hb dX2_told_18 (by decide) (fun hc => ?_) (fun hc => ?_)
      · skip
        have hP := gp_left hP
        have hD := gp_leftD hD
        refine lv_iload_n hx hb dX2_told_158 rfl (lv_at hl 1 rfl) ?_
        refine lv_if_ne (tgt := 169) hx hb dX2_told_159 (by decide) (fun hs => ?_) (fun hs => ?_)
        rotate_left
        · first | exact absurd hs (by decide) | exact absurd (by decide) hs
        refine lv_iload_n hx hb dX2_told_169 rfl (lv_at hl 1 rfl) ?_
        refine lv_iconst (v := 4) hx hb dX2_told_170 (by decide) ?_
        refine lv_icmp_ne (tgt := 181) hx hb dX2_told_171 (by decide) (fun hs => ?_) (fun hs => ?_)
        rotate_left
        · first | exact absurd hs (by decide) | exact absurd (by decide) hs
        refine lv_iload_n hx hb dX2_told_181 rfl (lv_at hl 1 rfl) ?_
        refine lv_iconst (v := 5) hx hb dX2_told_182 (by decide) ?_
        refine lv_icmp_ne (tgt := 193) hx hb dX2_told_183 (by decide) (fun hs => ?_) (fun hs => ?_)
        · first | exact absurd hs (by decide) | exact absurd (by decide) hs
        refine lv_aload_n hx hb dX2_told_186 rfl (lv_at hl 0 rfl) ?_
        refine va_get (D := D) (ci := 2) (v := .int (m_drd σ)) (C := RX2) (T := TX2) (N := 11) hx hb hts (fun _ h9 => (List.mem_cons_of_mem _ (List.mem_append_right _ h9))) hown hK hP 0 rfl rfl 9 (by decide) (hts (Cond.fieldLink RX2 44 "FloodGridLaw$Sim" "drained" "I") (List.mem_of_getElem? (i := 8) rfl)) (fun _ h9 => h9) rfl dX2_told_187 ?_
        refine lv_goto (tgt := 207) hx hb dX2_told_190 (by decide) ?_
        exact fin (m_drd σ) () H locs 9 72 207 ls dX2_told_207 rfl hP hD hS (Nat.le_of_ble_eq_true rfl) (Nat.le_of_ble_eq_true rfl)
      · skip
        exact absurd (show (8 : Int32) ≤ nI 8 by decide) hc
    | succ fux ihx =>
      intro x hix v H locs ls  hP hD hS hl
      have hx8 : x < 8 := by omega
      refine lv_iload hx hb dX2_told_14 (lv_at hl 4 rfl) ?_
      refine lv_bipush (v := 8) hx hb dX2_told_16 (by decide) ?_
      refine lv_icmp_ge (tgt := 158) hx hb dX2_told_18 (by decide) (fun hc => ?_) (fun hc => ?_)
      · skip
        exact absurd hc (nI_ge (b := 8) hx8 (by decide))
      · skip
        refine lv_iconst (v := 0) hx hb dX2_told_21 (by decide) ?_
        refine lv_istore (lv' := [(5, .int 0), (0, .ref h), (1, .int (nI 5)), (2, .int v), (3, .ref q), (4, .int (nI x))]) hx hb dX2_told_22 hl (by decide) rfl (fun ls hl => ?_)
        have ly : ∀ (fuy y : Nat), y + fuy = 8 → ∀ (v : Int32) (H : Heap) (locs : List Loc) (ls : Array Slot), va_P D vwCl ((sM h a r aw bw cI cJ hei dra rai σ) ++ (gr q rr cZ cB (fun _ => 0))) H → va_D A ((sM h a r aw bw cI cJ hei dra rai σ) ++ (gr q rr cZ cB (fun _ => 0))) → va_S A s.heap H locs → lv_has ls 6 [(0, .ref h), (1, .int (nI 5)), (2, .int v), (3, .ref q), (4, .int (nI x)), (5, .int (nI y))] → W p l e rm_X2_told s m args below meth c H locs 9 72 Q (F0 m 24 ls []) := by
          intro fuy
          induction fuy with
          | zero =>
            intro y hiy v H locs ls  hP hD hS hl
            obtain rfl : 8 = y := by omega
            refine lv_iload hx hb dX2_told_24 (lv_at hl 5 rfl) ?_
            refine lv_bipush (v := 8) hx hb dX2_told_26 (by decide) ?_
            refine lv_icmp_ge (tgt := 152) hx hb dX2_told_28 (by decide) (fun hc2 => ?_) (fun hc2 => ?_)
            · skip
              refine lv_iinc (v := (nI (x + 1))) (lv' := [(4, .int (nI (x + 1))), (0, .ref h), (1, .int (nI 5)), (2, .int v), (3, .ref q), (5, .int (nI 8))]) hx hb dX2_told_152 hl (k := 4) rfl (nI_1 x) (by decide) rfl (fun ls hl => ?_)
              refine lv_goto (tgt := 14) hx hb dX2_told_155 (by decide) ?_
              exact ihx (x + 1) (by omega) v H locs ls  hP hD hS (lv_sub hl [1, 2, 3, 4, 0] rfl)
            · skip
              exact absurd (show (8 : Int32) ≤ nI 8 by decide) hc2
          | succ fuy ihy =>
            intro y hiy v H locs ls  hP hD hS hl
            have hy8 : y < 8 := by omega
            refine lv_iload hx hb dX2_told_24 (lv_at hl 5 rfl) ?_
            refine lv_bipush (v := 8) hx hb dX2_told_26 (by decide) ?_
            refine lv_icmp_ge (tgt := 152) hx hb dX2_told_28 (by decide) (fun hc2 => ?_) (fun hc2 => ?_)
            · skip
              exact absurd hc2 (nI_ge (b := 8) hy8 (by decide))
            · skip
              have hi64 : 8 * x + y < 64 := by omega
              have hk64 : od (8 * x + y) < 64 := od_lt hi64
              refine lv_iload_n hx hb dX2_told_31 rfl (lv_at hl 1 rfl) ?_
              refine lv_iconst (v := 1) hx hb dX2_told_32 (by decide) ?_
              refine lv_icmp_ne (tgt := 49) hx hb dX2_told_33 (by decide) (fun hs => ?_) (fun hs => ?_)
              rotate_left
              · first | exact absurd hs (by decide) | exact absurd (by decide) hs
              refine lv_iload_n hx hb dX2_told_49 rfl (lv_at hl 1 rfl) ?_
              refine lv_iconst (v := 2) hx hb dX2_told_50 (by decide) ?_
              refine lv_icmp_ne (tgt := 75) hx hb dX2_told_51 (by decide) (fun hs => ?_) (fun hs => ?_)
              rotate_left
              · first | exact absurd hs (by decide) | exact absurd (by decide) hs
              refine lv_iload_n hx hb dX2_told_75 rfl (lv_at hl 1 rfl) ?_
              refine lv_iconst (v := 3) hx hb dX2_told_76 (by decide) ?_
              refine lv_icmp_ne (tgt := 101) hx hb dX2_told_77 (by decide) (fun hs => ?_) (fun hs => ?_)
              rotate_left
              · first | exact absurd hs (by decide) | exact absurd (by decide) hs
              refine lv_iload_n hx hb dX2_told_101 rfl (lv_at hl 1 rfl) ?_
              refine lv_bipush (v := 6) hx hb dX2_told_102 (by decide) ?_
              refine lv_icmp_ne (tgt := 120) hx hb dX2_told_104 (by decide) (fun hs => ?_) (fun hs => ?_)
              rotate_left
              · first | exact absurd hs (by decide) | exact absurd (by decide) hs
              refine lv_iload_n hx hb dX2_told_120 rfl (lv_at hl 1 rfl) ?_
              refine lv_bipush (v := 8) hx hb dX2_told_121 (by decide) ?_
              refine lv_icmp_ne (tgt := 146) hx hb dX2_told_123 (by decide) (fun hs => ?_) (fun hs => ?_)
              rotate_left
              · first | exact absurd hs (by decide) | exact absurd (by decide) hs
              refine lv_iinc (v := (nI (y + 1))) (lv' := [(5, .int (nI (y + 1))), (0, .ref h), (1, .int (nI 5)), (2, .int v), (3, .ref q), (4, .int (nI x))]) hx hb dX2_told_146 hl (k := 5) rfl (nI_1 y) (by decide) rfl (fun ls hl => ?_)
              refine lv_goto (tgt := 24) hx hb dX2_told_149 (by decide) ?_
              exact ihy (y + 1) (by omega) v H locs ls  hP hD hS (lv_sub hl [1, 2, 3, 4, 5, 0] rfl)
        exact ly 8 0 (by omega) v H locs ls  hP hD hS (lv_sub hl [1, 2, 3, 4, 5, 0] rfl)
  exact lx 8 0 (by omega) 0 H locs ls  hP hD hS (lv_sub hl [3, 4, 2, 1, 0] rfl)
set_option maxHeartbeats 4000000 in
set_option maxRecDepth 100000 in
theorem c_X2_told6 (l : Launch) (D : va_G) (cI cJ cZ cB : ClassId) (κ : Kx) (h : Nat) (a : Nat → Nat) (r : Nat → Nat → Nat) (aw : Nat) (bw : Nat → Nat) (hei dra rai : Nat → Int32) (σ : Ms) (hw0 : ∀ c, c < 64 → 0 ≤ m_wat σ c) : cg_i (S := Unit) l D yX2_told wsX2_told rm_X2_told [.ref h, .int (nI 6)] (sM h a r aw bw cI cJ hei dra rai σ) [(cI, .int), (cJ, .array .int), (cZ, .boolean), (cB, .array .boolean)] κ (fun v _ => v = q_tally σ 6) (fun _ => (sM h a r aw bw cI cJ hei dra rai σ)) := by
  refine cg_ofi (cc := cX2_told) (maxL := 6) (by decide) rfl (Nat.le_of_ble_eq_true rfl) ?_
  intro p e s m args below meth c A Q C0 H locs hP hD hS fin ls hl
  obtain ⟨hx, hb, hml, hown, hts, hA, hK, hX⟩ := C0
  have hown : s.vm.findClass RX2 = some m.cls := hown
  have hl : lv_has ls 6 [(0, .ref h), (1, .int (nI 6))] := hl
  refine lv_iconst (v := 0) hx hb dX2_told_0 (by decide) ?_
  refine lv_istore_n (lv' := [(2, .int 0), (0, .ref h), (1, .int (nI 6))]) hx hb dX2_told_1 rfl hl (by decide) rfl (fun ls hl => ?_)
  refine lv_bipush (v := 8) hx hb dX2_told_2 (by decide) ?_
  refine lv_bipush (v := 8) hx hb dX2_told_4 (by decide) ?_
  refine gr_mnz (cells1 := 9) (slots1 := 72) hx hb hown (hts (Cond.classLink RX2 59 "[[Z") (List.mem_of_getElem? (i := 1) rfl)) hX.2.2.1 (hts (Cond.arrayClass .boolean) (List.mem_of_getElem? (i := 2) rfl)) 2 3 rfl rfl hK hP hD hS hA 8 8 rfl rfl (by decide) (by decide) rfl rfl (Nat.le_of_ble_eq_true rfl) (Nat.le_of_ble_eq_true rfl) dX2_told_6 (fun q rr H hP hD hS => ?_)
  have hP : va_P D vwCl ((sM h a r aw bw cI cJ hei dra rai σ) ++ (gr q rr cZ cB (fun _ => 0))) H := hP
  have hD : va_D A ((sM h a r aw bw cI cJ hei dra rai σ) ++ (gr q rr cZ cB (fun _ => 0))) := hD
  refine lv_astore_n (lv' := [(3, .ref q), (2, .int 0), (0, .ref h), (1, .int (nI 6))]) hx hb dX2_told_10 rfl hl (by decide) rfl (fun ls hl => ?_)
  refine lv_iconst (v := 0) hx hb dX2_told_11 (by decide) ?_
  refine lv_istore (lv' := [(4, .int 0), (3, .ref q), (2, .int 0), (0, .ref h), (1, .int (nI 6))]) hx hb dX2_told_12 hl (by decide) rfl (fun ls hl => ?_)
  have lx : ∀ (fux x : Nat), x + fux = 8 → ∀ (v : Int32) (H : Heap) (locs : List Loc) (ls : Array Slot), (v = 0 + q_sum (fun j => (m_peo σ) (od j)) (8 * x)) → va_P D vwCl ((sM h a r aw bw cI cJ hei dra rai σ) ++ (gr q rr cZ cB (fun _ => 0))) H → va_D A ((sM h a r aw bw cI cJ hei dra rai σ) ++ (gr q rr cZ cB (fun _ => 0))) → va_S A s.heap H locs → lv_has ls 6 [(0, .ref h), (1, .int (nI 6)), (2, .int v), (3, .ref q), (4, .int (nI x))] → W p l e rm_X2_told s m args below meth c H locs 9 72 Q (F0 m 14 ls []) := by
    intro fux
    induction fux with
    | zero =>
      intro x hix v H locs ls hv hP hD hS hl
      obtain rfl : 8 = x := by omega
      refine lv_iload hx hb dX2_told_14 (lv_at hl 4 rfl) ?_
      refine lv_bipush (v := 8) hx hb dX2_told_16 (by decide) ?_
      refine lv_icmp_ge (tgt := 158) hx hb dX2_told_18 (by decide) (fun hc => ?_) (fun hc => ?_)
      · skip
        have hP := gp_left hP
        have hD := gp_leftD hD
        refine lv_iload_n hx hb dX2_told_158 rfl (lv_at hl 1 rfl) ?_
        refine lv_if_ne (tgt := 169) hx hb dX2_told_159 (by decide) (fun hs => ?_) (fun hs => ?_)
        rotate_left
        · first | exact absurd hs (by decide) | exact absurd (by decide) hs
        refine lv_iload_n hx hb dX2_told_169 rfl (lv_at hl 1 rfl) ?_
        refine lv_iconst (v := 4) hx hb dX2_told_170 (by decide) ?_
        refine lv_icmp_ne (tgt := 181) hx hb dX2_told_171 (by decide) (fun hs => ?_) (fun hs => ?_)
        rotate_left
        · first | exact absurd hs (by decide) | exact absurd (by decide) hs
        refine lv_iload_n hx hb dX2_told_181 rfl (lv_at hl 1 rfl) ?_
        refine lv_iconst (v := 5) hx hb dX2_told_182 (by decide) ?_
        refine lv_icmp_ne (tgt := 193) hx hb dX2_told_183 (by decide) (fun hs => ?_) (fun hs => ?_)
        rotate_left
        · first | exact absurd hs (by decide) | exact absurd (by decide) hs
        refine lv_iload_n hx hb dX2_told_193 rfl (lv_at hl 1 rfl) ?_
        refine lv_bipush (v := 7) hx hb dX2_told_194 (by decide) ?_
        refine lv_icmp_ne (tgt := 206) hx hb dX2_told_196 (by decide) (fun hs => ?_) (fun hs => ?_)
        rotate_left
        · first | exact absurd hs (by decide) | exact absurd (by decide) hs
        refine lv_iload_n hx hb dX2_told_206 rfl (lv_at hl 2 rfl) ?_
        exact fin v () H locs 9 72 207 ls dX2_told_207 (by rw [hv, Int32.zero_add]; exact so_64 (m_peo σ)) hP hD hS (Nat.le_of_ble_eq_true rfl) (Nat.le_of_ble_eq_true rfl)
      · skip
        exact absurd (show (8 : Int32) ≤ nI 8 by decide) hc
    | succ fux ihx =>
      intro x hix v H locs ls hv hP hD hS hl
      have hx8 : x < 8 := by omega
      refine lv_iload hx hb dX2_told_14 (lv_at hl 4 rfl) ?_
      refine lv_bipush (v := 8) hx hb dX2_told_16 (by decide) ?_
      refine lv_icmp_ge (tgt := 158) hx hb dX2_told_18 (by decide) (fun hc => ?_) (fun hc => ?_)
      · skip
        exact absurd hc (nI_ge (b := 8) hx8 (by decide))
      · skip
        refine lv_iconst (v := 0) hx hb dX2_told_21 (by decide) ?_
        refine lv_istore (lv' := [(5, .int 0), (0, .ref h), (1, .int (nI 6)), (2, .int v), (3, .ref q), (4, .int (nI x))]) hx hb dX2_told_22 hl (by decide) rfl (fun ls hl => ?_)
        have ly : ∀ (fuy y : Nat), y + fuy = 8 → ∀ (v : Int32) (H : Heap) (locs : List Loc) (ls : Array Slot), (v = 0 + q_sum (fun j => (m_peo σ) (od j)) (8 * x + y)) → va_P D vwCl ((sM h a r aw bw cI cJ hei dra rai σ) ++ (gr q rr cZ cB (fun _ => 0))) H → va_D A ((sM h a r aw bw cI cJ hei dra rai σ) ++ (gr q rr cZ cB (fun _ => 0))) → va_S A s.heap H locs → lv_has ls 6 [(0, .ref h), (1, .int (nI 6)), (2, .int v), (3, .ref q), (4, .int (nI x)), (5, .int (nI y))] → W p l e rm_X2_told s m args below meth c H locs 9 72 Q (F0 m 24 ls []) := by
          intro fuy
          induction fuy with
          | zero =>
            intro y hiy v H locs ls hv hP hD hS hl
            obtain rfl : 8 = y := by omega
            refine lv_iload hx hb dX2_told_24 (lv_at hl 5 rfl) ?_
            refine lv_bipush (v := 8) hx hb dX2_told_26 (by decide) ?_
            refine lv_icmp_ge (tgt := 152) hx hb dX2_told_28 (by decide) (fun hc2 => ?_) (fun hc2 => ?_)
            · skip
              refine lv_iinc (v := (nI (x + 1))) (lv' := [(4, .int (nI (x + 1))), (0, .ref h), (1, .int (nI 6)), (2, .int v), (3, .ref q), (5, .int (nI 8))]) hx hb dX2_told_152 hl (k := 4) rfl (nI_1 x) (by decide) rfl (fun ls hl => ?_)
              refine lv_goto (tgt := 14) hx hb dX2_told_155 (by decide) ?_
              exact ihx (x + 1) (by omega) v H locs ls hv hP hD hS (lv_sub hl [1, 2, 3, 4, 0] rfl)
            · skip
              exact absurd (show (8 : Int32) ≤ nI 8 by decide) hc2
          | succ fuy ihy =>
            intro y hiy v H locs ls hv hP hD hS hl
            have hy8 : y < 8 := by omega
            refine lv_iload hx hb dX2_told_24 (lv_at hl 5 rfl) ?_
            refine lv_bipush (v := 8) hx hb dX2_told_26 (by decide) ?_
            refine lv_icmp_ge (tgt := 152) hx hb dX2_told_28 (by decide) (fun hc2 => ?_) (fun hc2 => ?_)
            · skip
              exact absurd hc2 (nI_ge (b := 8) hy8 (by decide))
            · skip
              have hi64 : 8 * x + y < 64 := by omega
              have hk64 : od (8 * x + y) < 64 := od_lt hi64
              refine lv_iload_n hx hb dX2_told_31 rfl (lv_at hl 1 rfl) ?_
              refine lv_iconst (v := 1) hx hb dX2_told_32 (by decide) ?_
              refine lv_icmp_ne (tgt := 49) hx hb dX2_told_33 (by decide) (fun hs => ?_) (fun hs => ?_)
              rotate_left
              · first | exact absurd hs (by decide) | exact absurd (by decide) hs
              refine lv_iload_n hx hb dX2_told_49 rfl (lv_at hl 1 rfl) ?_
              refine lv_iconst (v := 2) hx hb dX2_told_50 (by decide) ?_
              refine lv_icmp_ne (tgt := 75) hx hb dX2_told_51 (by decide) (fun hs => ?_) (fun hs => ?_)
              rotate_left
              · first | exact absurd hs (by decide) | exact absurd (by decide) hs
              refine lv_iload_n hx hb dX2_told_75 rfl (lv_at hl 1 rfl) ?_
              refine lv_iconst (v := 3) hx hb dX2_told_76 (by decide) ?_
              refine lv_icmp_ne (tgt := 101) hx hb dX2_told_77 (by decide) (fun hs => ?_) (fun hs => ?_)
              rotate_left
              · first | exact absurd hs (by decide) | exact absurd (by decide) hs
              refine lv_iload_n hx hb dX2_told_101 rfl (lv_at hl 1 rfl) ?_
              refine lv_bipush (v := 6) hx hb dX2_told_102 (by decide) ?_
              refine lv_icmp_ne (tgt := 120) hx hb dX2_told_104 (by decide) (fun hs => ?_) (fun hs => ?_)
              · first | exact absurd hs (by decide) | exact absurd (by decide) hs
              refine lv_iload_n hx hb dX2_told_107 rfl (lv_at hl 2 rfl) ?_
              refine lv_aload_n hx hb dX2_told_108 rfl (lv_at hl 0 rfl) ?_
              refine va_get (D := D) (ci := 2) (v := .ref (a 5)) (C := RX2) (T := TX2) (N := 11) hx hb hts (fun _ h9 => (List.mem_cons_of_mem _ (List.mem_append_right _ h9))) hown hK hP 0 rfl rfl 5 (by decide) (hts (Cond.fieldLink RX2 26 "FloodGridLaw$Sim" "town" "[[I") (List.mem_of_getElem? (i := 5) rfl)) (fun _ h9 => h9) rfl dX2_told_109 ?_
              refine lv_iload hx hb dX2_told_112 (lv_at hl 4 rfl) ?_
              refine gr_aald hx hb hK hP 46 1 rfl rfl x rfl (by omega) (by decide) dX2_told_114 ?_
              refine lv_iload hx hb dX2_told_115 (lv_at hl 5 rfl) ?_
              refine gr_iald (v := (m_peo σ) (od (8 * x + y))) hx hb hK hP 47 0 rfl rfl x y (od (8 * x + y)) (by omega) (by omega) (od_at hx8 hy8).symm rfl rfl dX2_told_117 ?_
              refine lv_iadd hx hb dX2_told_118 ?_
              refine lv_istore_n (lv' := [(2, .int (v + ((m_peo σ) (od (8 * x + y))))), (0, .ref h), (1, .int (nI 6)), (3, .ref q), (4, .int (nI x)), (5, .int (nI y))]) hx hb dX2_told_119 rfl hl (by decide) rfl (fun ls hl => ?_)
              refine lv_iload_n hx hb dX2_told_120 rfl (lv_at hl 2 rfl) ?_
              refine lv_bipush (v := 8) hx hb dX2_told_121 (by decide) ?_
              refine lv_icmp_ne (tgt := 146) hx hb dX2_told_123 (by decide) (fun hs => ?_) (fun hs => ?_)
              rotate_left
              · first | exact absurd hs (by decide) | exact absurd (by decide) hs
              refine lv_iinc (v := (nI (y + 1))) (lv' := [(5, .int (nI (y + 1))), (2, .int (v + ((m_peo σ) (od (8 * x + y))))), (0, .ref h), (1, .int (nI 6)), (3, .ref q), (4, .int (nI x))]) hx hb dX2_told_146 hl (k := 5) rfl (nI_1 y) (by decide) rfl (fun ls hl => ?_)
              refine lv_goto (tgt := 24) hx hb dX2_told_149 (by decide) ?_
              exact ihy (y + 1) (by omega) (v + (m_peo σ) (od (8 * x + y))) H locs ls (by rw [hv]; exact so_up (m_peo σ) _ _ rfl) hP hD hS (lv_sub hl [2, 3, 1, 4, 5, 0] rfl)
        exact ly 8 0 (by omega) v H locs ls hv hP hD hS (lv_sub hl [1, 2, 3, 4, 5, 0] rfl)
  exact lx 8 0 (by omega) 0 H locs ls (Int32.add_zero _).symm hP hD hS (lv_sub hl [3, 4, 2, 1, 0] rfl)
set_option maxHeartbeats 4000000 in
set_option maxRecDepth 100000 in
theorem c_X2_told7 (l : Launch) (D : va_G) (cI cJ cZ cB : ClassId) (κ : Kx) (h : Nat) (a : Nat → Nat) (r : Nat → Nat → Nat) (aw : Nat) (bw : Nat → Nat) (hei dra rai : Nat → Int32) (σ : Ms) (hw0 : ∀ c, c < 64 → 0 ≤ m_wat σ c) : cg_i (S := Unit) l D yX2_told wsX2_told rm_X2_told [.ref h, .int (nI 7)] (sM h a r aw bw cI cJ hei dra rai σ) [(cI, .int), (cJ, .array .int), (cZ, .boolean), (cB, .array .boolean)] κ (fun v _ => v = q_tally σ 7) (fun _ => (sM h a r aw bw cI cJ hei dra rai σ)) := by
  refine cg_ofi (cc := cX2_told) (maxL := 6) (by decide) rfl (Nat.le_of_ble_eq_true rfl) ?_
  intro p e s m args below meth c A Q C0 H locs hP hD hS fin ls hl
  obtain ⟨hx, hb, hml, hown, hts, hA, hK, hX⟩ := C0
  have hown : s.vm.findClass RX2 = some m.cls := hown
  have hl : lv_has ls 6 [(0, .ref h), (1, .int (nI 7))] := hl
  refine lv_iconst (v := 0) hx hb dX2_told_0 (by decide) ?_
  refine lv_istore_n (lv' := [(2, .int 0), (0, .ref h), (1, .int (nI 7))]) hx hb dX2_told_1 rfl hl (by decide) rfl (fun ls hl => ?_)
  refine lv_bipush (v := 8) hx hb dX2_told_2 (by decide) ?_
  refine lv_bipush (v := 8) hx hb dX2_told_4 (by decide) ?_
  refine gr_mnz (cells1 := 9) (slots1 := 72) hx hb hown (hts (Cond.classLink RX2 59 "[[Z") (List.mem_of_getElem? (i := 1) rfl)) hX.2.2.1 (hts (Cond.arrayClass .boolean) (List.mem_of_getElem? (i := 2) rfl)) 2 3 rfl rfl hK hP hD hS hA 8 8 rfl rfl (by decide) (by decide) rfl rfl (Nat.le_of_ble_eq_true rfl) (Nat.le_of_ble_eq_true rfl) dX2_told_6 (fun q rr H hP hD hS => ?_)
  have hP : va_P D vwCl ((sM h a r aw bw cI cJ hei dra rai σ) ++ (gr q rr cZ cB (fun _ => 0))) H := hP
  have hD : va_D A ((sM h a r aw bw cI cJ hei dra rai σ) ++ (gr q rr cZ cB (fun _ => 0))) := hD
  refine lv_astore_n (lv' := [(3, .ref q), (2, .int 0), (0, .ref h), (1, .int (nI 7))]) hx hb dX2_told_10 rfl hl (by decide) rfl (fun ls hl => ?_)
  refine lv_iconst (v := 0) hx hb dX2_told_11 (by decide) ?_
  refine lv_istore (lv' := [(4, .int 0), (3, .ref q), (2, .int 0), (0, .ref h), (1, .int (nI 7))]) hx hb dX2_told_12 hl (by decide) rfl (fun ls hl => ?_)
  have lx : ∀ (fux x : Nat), x + fux = 8 → ∀ (v : Int32) (H : Heap) (locs : List Loc) (ls : Array Slot), va_P D vwCl ((sM h a r aw bw cI cJ hei dra rai σ) ++ (gr q rr cZ cB (fun _ => 0))) H → va_D A ((sM h a r aw bw cI cJ hei dra rai σ) ++ (gr q rr cZ cB (fun _ => 0))) → va_S A s.heap H locs → lv_has ls 6 [(0, .ref h), (1, .int (nI 7)), (2, .int v), (3, .ref q), (4, .int (nI x))] → W p l e rm_X2_told s m args below meth c H locs 9 72 Q (F0 m 14 ls []) := by
    intro fux
    induction fux with
    | zero =>
      intro x hix v H locs ls  hP hD hS hl
      obtain rfl : 8 = x := by omega
      refine lv_iload hx hb dX2_told_14 (lv_at hl 4 rfl) ?_
      refine lv_bipush (v := 8) hx hb dX2_told_16 (by decide) ?_
      refine lv_icmp_ge (tgt := 158) hx hb dX2_told_18 (by decide) (fun hc => ?_) (fun hc => ?_)
      · skip
        have hP := gp_left hP
        have hD := gp_leftD hD
        refine lv_iload_n hx hb dX2_told_158 rfl (lv_at hl 1 rfl) ?_
        refine lv_if_ne (tgt := 169) hx hb dX2_told_159 (by decide) (fun hs => ?_) (fun hs => ?_)
        rotate_left
        · first | exact absurd hs (by decide) | exact absurd (by decide) hs
        refine lv_iload_n hx hb dX2_told_169 rfl (lv_at hl 1 rfl) ?_
        refine lv_iconst (v := 4) hx hb dX2_told_170 (by decide) ?_
        refine lv_icmp_ne (tgt := 181) hx hb dX2_told_171 (by decide) (fun hs => ?_) (fun hs => ?_)
        rotate_left
        · first | exact absurd hs (by decide) | exact absurd (by decide) hs
        refine lv_iload_n hx hb dX2_told_181 rfl (lv_at hl 1 rfl) ?_
        refine lv_iconst (v := 5) hx hb dX2_told_182 (by decide) ?_
        refine lv_icmp_ne (tgt := 193) hx hb dX2_told_183 (by decide) (fun hs => ?_) (fun hs => ?_)
        rotate_left
        · first | exact absurd hs (by decide) | exact absurd (by decide) hs
        refine lv_iload_n hx hb dX2_told_193 rfl (lv_at hl 1 rfl) ?_
        refine lv_bipush (v := 7) hx hb dX2_told_194 (by decide) ?_
        refine lv_icmp_ne (tgt := 206) hx hb dX2_told_196 (by decide) (fun hs => ?_) (fun hs => ?_)
        · first | exact absurd hs (by decide) | exact absurd (by decide) hs
        refine lv_aload_n hx hb dX2_told_199 rfl (lv_at hl 0 rfl) ?_
        refine va_get (D := D) (ci := 2) (v := .int (m_lef σ)) (C := RX2) (T := TX2) (N := 11) hx hb hts (fun _ h9 => (List.mem_cons_of_mem _ (List.mem_append_right _ h9))) hown hK hP 0 rfl rfl 10 (by decide) (hts (Cond.fieldLink RX2 47 "FloodGridLaw$Sim" "left" "I") (List.mem_of_getElem? (i := 9) rfl)) (fun _ h9 => h9) rfl dX2_told_200 ?_
        refine lv_goto (tgt := 207) hx hb dX2_told_203 (by decide) ?_
        exact fin (m_lef σ) () H locs 9 72 207 ls dX2_told_207 rfl hP hD hS (Nat.le_of_ble_eq_true rfl) (Nat.le_of_ble_eq_true rfl)
      · skip
        exact absurd (show (8 : Int32) ≤ nI 8 by decide) hc
    | succ fux ihx =>
      intro x hix v H locs ls  hP hD hS hl
      have hx8 : x < 8 := by omega
      refine lv_iload hx hb dX2_told_14 (lv_at hl 4 rfl) ?_
      refine lv_bipush (v := 8) hx hb dX2_told_16 (by decide) ?_
      refine lv_icmp_ge (tgt := 158) hx hb dX2_told_18 (by decide) (fun hc => ?_) (fun hc => ?_)
      · skip
        exact absurd hc (nI_ge (b := 8) hx8 (by decide))
      · skip
        refine lv_iconst (v := 0) hx hb dX2_told_21 (by decide) ?_
        refine lv_istore (lv' := [(5, .int 0), (0, .ref h), (1, .int (nI 7)), (2, .int v), (3, .ref q), (4, .int (nI x))]) hx hb dX2_told_22 hl (by decide) rfl (fun ls hl => ?_)
        have ly : ∀ (fuy y : Nat), y + fuy = 8 → ∀ (v : Int32) (H : Heap) (locs : List Loc) (ls : Array Slot), va_P D vwCl ((sM h a r aw bw cI cJ hei dra rai σ) ++ (gr q rr cZ cB (fun _ => 0))) H → va_D A ((sM h a r aw bw cI cJ hei dra rai σ) ++ (gr q rr cZ cB (fun _ => 0))) → va_S A s.heap H locs → lv_has ls 6 [(0, .ref h), (1, .int (nI 7)), (2, .int v), (3, .ref q), (4, .int (nI x)), (5, .int (nI y))] → W p l e rm_X2_told s m args below meth c H locs 9 72 Q (F0 m 24 ls []) := by
          intro fuy
          induction fuy with
          | zero =>
            intro y hiy v H locs ls  hP hD hS hl
            obtain rfl : 8 = y := by omega
            refine lv_iload hx hb dX2_told_24 (lv_at hl 5 rfl) ?_
            refine lv_bipush (v := 8) hx hb dX2_told_26 (by decide) ?_
            refine lv_icmp_ge (tgt := 152) hx hb dX2_told_28 (by decide) (fun hc2 => ?_) (fun hc2 => ?_)
            · skip
              refine lv_iinc (v := (nI (x + 1))) (lv' := [(4, .int (nI (x + 1))), (0, .ref h), (1, .int (nI 7)), (2, .int v), (3, .ref q), (5, .int (nI 8))]) hx hb dX2_told_152 hl (k := 4) rfl (nI_1 x) (by decide) rfl (fun ls hl => ?_)
              refine lv_goto (tgt := 14) hx hb dX2_told_155 (by decide) ?_
              exact ihx (x + 1) (by omega) v H locs ls  hP hD hS (lv_sub hl [1, 2, 3, 4, 0] rfl)
            · skip
              exact absurd (show (8 : Int32) ≤ nI 8 by decide) hc2
          | succ fuy ihy =>
            intro y hiy v H locs ls  hP hD hS hl
            have hy8 : y < 8 := by omega
            refine lv_iload hx hb dX2_told_24 (lv_at hl 5 rfl) ?_
            refine lv_bipush (v := 8) hx hb dX2_told_26 (by decide) ?_
            refine lv_icmp_ge (tgt := 152) hx hb dX2_told_28 (by decide) (fun hc2 => ?_) (fun hc2 => ?_)
            · skip
              exact absurd hc2 (nI_ge (b := 8) hy8 (by decide))
            · skip
              have hi64 : 8 * x + y < 64 := by omega
              have hk64 : od (8 * x + y) < 64 := od_lt hi64
              refine lv_iload_n hx hb dX2_told_31 rfl (lv_at hl 1 rfl) ?_
              refine lv_iconst (v := 1) hx hb dX2_told_32 (by decide) ?_
              refine lv_icmp_ne (tgt := 49) hx hb dX2_told_33 (by decide) (fun hs => ?_) (fun hs => ?_)
              rotate_left
              · first | exact absurd hs (by decide) | exact absurd (by decide) hs
              refine lv_iload_n hx hb dX2_told_49 rfl (lv_at hl 1 rfl) ?_
              refine lv_iconst (v := 2) hx hb dX2_told_50 (by decide) ?_
              refine lv_icmp_ne (tgt := 75) hx hb dX2_told_51 (by decide) (fun hs => ?_) (fun hs => ?_)
              rotate_left
              · first | exact absurd hs (by decide) | exact absurd (by decide) hs
              refine lv_iload_n hx hb dX2_told_75 rfl (lv_at hl 1 rfl) ?_
              refine lv_iconst (v := 3) hx hb dX2_told_76 (by decide) ?_
              refine lv_icmp_ne (tgt := 101) hx hb dX2_told_77 (by decide) (fun hs => ?_) (fun hs => ?_)
              rotate_left
              · first | exact absurd hs (by decide) | exact absurd (by decide) hs
              refine lv_iload_n hx hb dX2_told_101 rfl (lv_at hl 1 rfl) ?_
              refine lv_bipush (v := 6) hx hb dX2_told_102 (by decide) ?_
              refine lv_icmp_ne (tgt := 120) hx hb dX2_told_104 (by decide) (fun hs => ?_) (fun hs => ?_)
              rotate_left
              · first | exact absurd hs (by decide) | exact absurd (by decide) hs
              refine lv_iload_n hx hb dX2_told_120 rfl (lv_at hl 1 rfl) ?_
              refine lv_bipush (v := 8) hx hb dX2_told_121 (by decide) ?_
              refine lv_icmp_ne (tgt := 146) hx hb dX2_told_123 (by decide) (fun hs => ?_) (fun hs => ?_)
              rotate_left
              · first | exact absurd hs (by decide) | exact absurd (by decide) hs
              refine lv_iinc (v := (nI (y + 1))) (lv' := [(5, .int (nI (y + 1))), (0, .ref h), (1, .int (nI 7)), (2, .int v), (3, .ref q), (4, .int (nI x))]) hx hb dX2_told_146 hl (k := 5) rfl (nI_1 y) (by decide) rfl (fun ls hl => ?_)
              refine lv_goto (tgt := 24) hx hb dX2_told_149 (by decide) ?_
              exact ihy (y + 1) (by omega) v H locs ls  hP hD hS (lv_sub hl [1, 2, 3, 4, 5, 0] rfl)
        exact ly 8 0 (by omega) v H locs ls  hP hD hS (lv_sub hl [1, 2, 3, 4, 5, 0] rfl)
  exact lx 8 0 (by omega) 0 H locs ls  hP hD hS (lv_sub hl [3, 4, 2, 1, 0] rfl)
set_option maxHeartbeats 4000000 in
set_option maxRecDepth 100000 in
theorem c_X2_told8 (l : Launch) (D : va_G) (cI cJ cZ cB : ClassId) (κ : Kx) (h : Nat) (a : Nat → Nat) (r : Nat → Nat → Nat) (aw : Nat) (bw : Nat → Nat) (hei dra rai : Nat → Int32) (σ : Ms) (hw0 : ∀ c, c < 64 → 0 ≤ m_wat σ c) : cg_i (S := Unit) l D yX2_told wsX2_told rm_X2_told [.ref h, .int (nI 8)] (sM h a r aw bw cI cJ hei dra rai σ) [(cI, .int), (cJ, .array .int), (cZ, .boolean), (cB, .array .boolean)] κ (fun v _ => v = q_tally σ 8) (fun _ => (sM h a r aw bw cI cJ hei dra rai σ)) := by
  refine cg_ofi (cc := cX2_told) (maxL := 6) (by decide) rfl (Nat.le_of_ble_eq_true rfl) ?_
  intro p e s m args below meth c A Q C0 H locs hP hD hS fin ls hl
  obtain ⟨hx, hb, hml, hown, hts, hA, hK, hX⟩ := C0
  have hown : s.vm.findClass RX2 = some m.cls := hown
  have hl : lv_has ls 6 [(0, .ref h), (1, .int (nI 8))] := hl
  refine lv_iconst (v := 0) hx hb dX2_told_0 (by decide) ?_
  refine lv_istore_n (lv' := [(2, .int 0), (0, .ref h), (1, .int (nI 8))]) hx hb dX2_told_1 rfl hl (by decide) rfl (fun ls hl => ?_)
  refine lv_bipush (v := 8) hx hb dX2_told_2 (by decide) ?_
  refine lv_bipush (v := 8) hx hb dX2_told_4 (by decide) ?_
  refine gr_mnz (cells1 := 9) (slots1 := 72) hx hb hown (hts (Cond.classLink RX2 59 "[[Z") (List.mem_of_getElem? (i := 1) rfl)) hX.2.2.1 (hts (Cond.arrayClass .boolean) (List.mem_of_getElem? (i := 2) rfl)) 2 3 rfl rfl hK hP hD hS hA 8 8 rfl rfl (by decide) (by decide) rfl rfl (Nat.le_of_ble_eq_true rfl) (Nat.le_of_ble_eq_true rfl) dX2_told_6 (fun q rr H hP hD hS => ?_)
  have hP : va_P D vwCl ((sM h a r aw bw cI cJ hei dra rai σ) ++ (gr q rr cZ cB (fun _ => 0))) H := hP
  have hD : va_D A ((sM h a r aw bw cI cJ hei dra rai σ) ++ (gr q rr cZ cB (fun _ => 0))) := hD
  refine lv_astore_n (lv' := [(3, .ref q), (2, .int 0), (0, .ref h), (1, .int (nI 8))]) hx hb dX2_told_10 rfl hl (by decide) rfl (fun ls hl => ?_)
  refine lv_iconst (v := 0) hx hb dX2_told_11 (by decide) ?_
  refine lv_istore (lv' := [(4, .int 0), (3, .ref q), (2, .int 0), (0, .ref h), (1, .int (nI 8))]) hx hb dX2_told_12 hl (by decide) rfl (fun ls hl => ?_)
  rw [bits_0] at hP hD
  have lx : ∀ (fux x : Nat), x + fux = 8 → ∀ (sn : Nat → Bool) (v : Int32) (H : Heap) (locs : List Loc) (ls : Array Slot), (td_I (m_wat σ) (8 * x) sn v) → va_P D vwCl ((sM h a r aw bw cI cJ hei dra rai σ) ++ (gr q rr cZ cB (q_bits sn))) H → va_D A ((sM h a r aw bw cI cJ hei dra rai σ) ++ (gr q rr cZ cB (q_bits sn))) → va_S A s.heap H locs → lv_has ls 6 [(0, .ref h), (1, .int (nI 8)), (2, .int v), (3, .ref q), (4, .int (nI x))] → W p l e rm_X2_told s m args below meth c H locs 9 72 Q (F0 m 14 ls []) := by
    intro fux
    induction fux with
    | zero =>
      intro x hix sn v H locs ls hv hP hD hS hl
      obtain rfl : 8 = x := by omega
      refine lv_iload hx hb dX2_told_14 (lv_at hl 4 rfl) ?_
      refine lv_bipush (v := 8) hx hb dX2_told_16 (by decide) ?_
      refine lv_icmp_ge (tgt := 158) hx hb dX2_told_18 (by decide) (fun hc => ?_) (fun hc => ?_)
      · skip
        have hP := gp_left hP
        have hD := gp_leftD hD
        refine lv_iload_n hx hb dX2_told_158 rfl (lv_at hl 1 rfl) ?_
        refine lv_if_ne (tgt := 169) hx hb dX2_told_159 (by decide) (fun hs => ?_) (fun hs => ?_)
        rotate_left
        · first | exact absurd hs (by decide) | exact absurd (by decide) hs
        refine lv_iload_n hx hb dX2_told_169 rfl (lv_at hl 1 rfl) ?_
        refine lv_iconst (v := 4) hx hb dX2_told_170 (by decide) ?_
        refine lv_icmp_ne (tgt := 181) hx hb dX2_told_171 (by decide) (fun hs => ?_) (fun hs => ?_)
        rotate_left
        · first | exact absurd hs (by decide) | exact absurd (by decide) hs
        refine lv_iload_n hx hb dX2_told_181 rfl (lv_at hl 1 rfl) ?_
        refine lv_iconst (v := 5) hx hb dX2_told_182 (by decide) ?_
        refine lv_icmp_ne (tgt := 193) hx hb dX2_told_183 (by decide) (fun hs => ?_) (fun hs => ?_)
        rotate_left
        · first | exact absurd hs (by decide) | exact absurd (by decide) hs
        refine lv_iload_n hx hb dX2_told_193 rfl (lv_at hl 1 rfl) ?_
        refine lv_bipush (v := 7) hx hb dX2_told_194 (by decide) ?_
        refine lv_icmp_ne (tgt := 206) hx hb dX2_told_196 (by decide) (fun hs => ?_) (fun hs => ?_)
        rotate_left
        · first | exact absurd hs (by decide) | exact absurd (by decide) hs
        refine lv_iload_n hx hb dX2_told_206 rfl (lv_at hl 2 rfl) ?_
        exact fin v () H locs 9 72 207 ls dX2_told_207 (td_end hv) hP hD hS (Nat.le_of_ble_eq_true rfl) (Nat.le_of_ble_eq_true rfl)
      · skip
        exact absurd (show (8 : Int32) ≤ nI 8 by decide) hc
    | succ fux ihx =>
      intro x hix sn v H locs ls hv hP hD hS hl
      have hx8 : x < 8 := by omega
      refine lv_iload hx hb dX2_told_14 (lv_at hl 4 rfl) ?_
      refine lv_bipush (v := 8) hx hb dX2_told_16 (by decide) ?_
      refine lv_icmp_ge (tgt := 158) hx hb dX2_told_18 (by decide) (fun hc => ?_) (fun hc => ?_)
      · skip
        exact absurd hc (nI_ge (b := 8) hx8 (by decide))
      · skip
        refine lv_iconst (v := 0) hx hb dX2_told_21 (by decide) ?_
        refine lv_istore (lv' := [(5, .int 0), (0, .ref h), (1, .int (nI 8)), (2, .int v), (3, .ref q), (4, .int (nI x))]) hx hb dX2_told_22 hl (by decide) rfl (fun ls hl => ?_)
        have ly : ∀ (fuy y : Nat), y + fuy = 8 → ∀ (sn : Nat → Bool) (v : Int32) (H : Heap) (locs : List Loc) (ls : Array Slot), (td_I (m_wat σ) (8 * x + y) sn v) → va_P D vwCl ((sM h a r aw bw cI cJ hei dra rai σ) ++ (gr q rr cZ cB (q_bits sn))) H → va_D A ((sM h a r aw bw cI cJ hei dra rai σ) ++ (gr q rr cZ cB (q_bits sn))) → va_S A s.heap H locs → lv_has ls 6 [(0, .ref h), (1, .int (nI 8)), (2, .int v), (3, .ref q), (4, .int (nI x)), (5, .int (nI y))] → W p l e rm_X2_told s m args below meth c H locs 9 72 Q (F0 m 24 ls []) := by
          intro fuy
          induction fuy with
          | zero =>
            intro y hiy sn v H locs ls hv hP hD hS hl
            obtain rfl : 8 = y := by omega
            refine lv_iload hx hb dX2_told_24 (lv_at hl 5 rfl) ?_
            refine lv_bipush (v := 8) hx hb dX2_told_26 (by decide) ?_
            refine lv_icmp_ge (tgt := 152) hx hb dX2_told_28 (by decide) (fun hc2 => ?_) (fun hc2 => ?_)
            · skip
              refine lv_iinc (v := (nI (x + 1))) (lv' := [(4, .int (nI (x + 1))), (0, .ref h), (1, .int (nI 8)), (2, .int v), (3, .ref q), (5, .int (nI 8))]) hx hb dX2_told_152 hl (k := 4) rfl (nI_1 x) (by decide) rfl (fun ls hl => ?_)
              refine lv_goto (tgt := 14) hx hb dX2_told_155 (by decide) ?_
              exact ihx (x + 1) (by omega) sn v H locs ls hv hP hD hS (lv_sub hl [1, 2, 3, 4, 0] rfl)
            · skip
              exact absurd (show (8 : Int32) ≤ nI 8 by decide) hc2
          | succ fuy ihy =>
            intro y hiy sn v H locs ls hv hP hD hS hl
            have hy8 : y < 8 := by omega
            refine lv_iload hx hb dX2_told_24 (lv_at hl 5 rfl) ?_
            refine lv_bipush (v := 8) hx hb dX2_told_26 (by decide) ?_
            refine lv_icmp_ge (tgt := 152) hx hb dX2_told_28 (by decide) (fun hc2 => ?_) (fun hc2 => ?_)
            · skip
              exact absurd hc2 (nI_ge (b := 8) hy8 (by decide))
            · skip
              have hi64 : 8 * x + y < 64 := by omega
              have hk64 : od (8 * x + y) < 64 := od_lt hi64
              refine lv_iload_n hx hb dX2_told_31 rfl (lv_at hl 1 rfl) ?_
              refine lv_iconst (v := 1) hx hb dX2_told_32 (by decide) ?_
              refine lv_icmp_ne (tgt := 49) hx hb dX2_told_33 (by decide) (fun hs => ?_) (fun hs => ?_)
              rotate_left
              · first | exact absurd hs (by decide) | exact absurd (by decide) hs
              refine lv_iload_n hx hb dX2_told_49 rfl (lv_at hl 1 rfl) ?_
              refine lv_iconst (v := 2) hx hb dX2_told_50 (by decide) ?_
              refine lv_icmp_ne (tgt := 75) hx hb dX2_told_51 (by decide) (fun hs => ?_) (fun hs => ?_)
              rotate_left
              · first | exact absurd hs (by decide) | exact absurd (by decide) hs
              refine lv_iload_n hx hb dX2_told_75 rfl (lv_at hl 1 rfl) ?_
              refine lv_iconst (v := 3) hx hb dX2_told_76 (by decide) ?_
              refine lv_icmp_ne (tgt := 101) hx hb dX2_told_77 (by decide) (fun hs => ?_) (fun hs => ?_)
              rotate_left
              · first | exact absurd hs (by decide) | exact absurd (by decide) hs
              refine lv_iload_n hx hb dX2_told_101 rfl (lv_at hl 1 rfl) ?_
              refine lv_bipush (v := 6) hx hb dX2_told_102 (by decide) ?_
              refine lv_icmp_ne (tgt := 120) hx hb dX2_told_104 (by decide) (fun hs => ?_) (fun hs => ?_)
              rotate_left
              · first | exact absurd hs (by decide) | exact absurd (by decide) hs
              refine lv_iload_n hx hb dX2_told_120 rfl (lv_at hl 1 rfl) ?_
              refine lv_bipush (v := 8) hx hb dX2_told_121 (by decide) ?_
              refine lv_icmp_ne (tgt := 146) hx hb dX2_told_123 (by decide) (fun hs => ?_) (fun hs => ?_)
              · first | exact absurd hs (by decide) | exact absurd (by decide) hs
              refine lv_iload_n hx hb dX2_told_126 rfl (lv_at hl 2 rfl) ?_
              refine lv_aload_n hx hb dX2_told_127 rfl (lv_at hl 0 rfl) ?_
              refine lv_aload_n hx hb dX2_told_128 rfl (lv_at hl 3 rfl) ?_
              refine lv_iload hx hb dX2_told_129 (lv_at hl 4 rfl) ?_
              refine lv_iload hx hb dX2_told_131 (lv_at hl 5 rfl) ?_
              refine cp_Vi (As := [.ref q, .int (nI x), .int (nI y)]) (rest := [.int v]) (wr := []) (cells1 := 9) (slots1 := 72) ⟨hx, hb, hml, hown, hts⟩ (c_spread l D cI cJ cZ cB h a r aw bw hei (m_wat σ) (m_dam σ) (m_wea σ) dra (m_peo σ) rai (nI (m_t σ)) (m_bro σ) (m_drd σ) (m_lef σ) q rr hw0 65 sn (nI x) (nI y) (by omega)) (cwV 3 hts gX2_told_X2_spread rfl rfl rfl (by decide +kernel) ⟨Nat.le_of_ble_eq_true rfl, Nat.le_of_ble_eq_true rfl⟩) hK hP hD hS hA [0, 1, 2, 3] rfl (va_recv hK hP (ci := 2) (q0 := 0) rfl rfl) rfl hl.1 rfl (Nat.le_of_ble_eq_true rfl) rfl rfl ⟨Nat.le_of_ble_eq_true rfl, Nat.le_of_ble_eq_true rfl⟩ dX2_told_133 (fun rv u1 H locs hw hP hD hS => ?_)
              have hP : va_P D vwCl ((sM h a r aw bw cI cJ hei dra rai σ) ++ (gr q rr cZ cB (q_bits u1))) H := hP
              have hD : va_D A ((sM h a r aw bw cI cJ hei dra rai σ) ++ (gr q rr cZ cB (q_bits u1))) := hD
              refine lv_if_le (tgt := 143) hx hb dX2_told_136 (by decide) (fun hc3 => ?_) (fun hc3 => ?_)
              · skip
                refine lv_iconst (v := 0) hx hb dX2_told_143 (by decide) ?_
                refine lv_iadd hx hb dX2_told_144 ?_
                refine lv_istore_n (lv' := [(2, .int (v + 0)), (0, .ref h), (1, .int (nI 8)), (3, .ref q), (4, .int (nI x)), (5, .int (nI y))]) hx hb dX2_told_145 rfl hl (by decide) rfl (fun ls hl => ?_)
                refine lv_iinc (v := (nI (y + 1))) (lv' := [(5, .int (nI (y + 1))), (2, .int (v + 0)), (0, .ref h), (1, .int (nI 8)), (3, .ref q), (4, .int (nI x))]) hx hb dX2_told_146 hl (k := 5) rfl (nI_1 y) (by decide) rfl (fun ls hl => ?_)
                refine lv_goto (tgt := 24) hx hb dX2_told_149 (by decide) ?_
                exact ihy (y + 1) (by omega) u1 (v + 0) H locs ls ((td_up hx8 hy8 hv hw).2 (Int32.not_lt.mpr hc3)) hP hD hS (lv_sub hl [2, 3, 1, 4, 5, 0] rfl)
              · skip
                refine lv_iconst (v := 1) hx hb dX2_told_139 (by decide) ?_
                refine lv_goto (tgt := 144) hx hb dX2_told_140 (by decide) ?_
                refine lv_iadd hx hb dX2_told_144 ?_
                refine lv_istore_n (lv' := [(2, .int (v + 1)), (0, .ref h), (1, .int (nI 8)), (3, .ref q), (4, .int (nI x)), (5, .int (nI y))]) hx hb dX2_told_145 rfl hl (by decide) rfl (fun ls hl => ?_)
                refine lv_iinc (v := (nI (y + 1))) (lv' := [(5, .int (nI (y + 1))), (2, .int (v + 1)), (0, .ref h), (1, .int (nI 8)), (3, .ref q), (4, .int (nI x))]) hx hb dX2_told_146 hl (k := 5) rfl (nI_1 y) (by decide) rfl (fun ls hl => ?_)
                refine lv_goto (tgt := 24) hx hb dX2_told_149 (by decide) ?_
                exact ihy (y + 1) (by omega) u1 (v + 1) H locs ls ((td_up hx8 hy8 hv hw).1 (Int32.not_le.mp hc3)) hP hD hS (lv_sub hl [2, 3, 1, 4, 5, 0] rfl)
        exact ly 8 0 (by omega) sn v H locs ls hv hP hD hS (lv_sub hl [1, 2, 3, 4, 5, 0] rfl)
  exact lx 8 0 (by omega) (fun _ => false) 0 H locs ls (td_0 _) hP hD hS (lv_sub hl [3, 4, 2, 1, 0] rfl)
theorem c_X2_told (l : Launch) (D : va_G) (cI cJ cZ cB : ClassId) (κ : Kx) (h : Nat) (a : Nat → Nat) (r : Nat → Nat → Nat) (aw : Nat) (bw : Nat → Nat) (hei dra rai : Nat → Int32) (σ : Ms) (hw0 : ∀ c, c < 64 → 0 ≤ m_wat σ c) (n : Nat) (hn : n ≤ 8) : cg_i (S := Unit) l D yX2_told wsX2_told rm_X2_told [.ref h, .int (nI n)] (sM h a r aw bw cI cJ hei dra rai σ) [(cI, .int), (cJ, .array .int), (cZ, .boolean), (cB, .array .boolean)] κ (fun v _ => v = q_tally σ n) (fun _ => (sM h a r aw bw cI cJ hei dra rai σ)) := by
  rcases (show n = 0 ∨ n = 1 ∨ n = 2 ∨ n = 3 ∨ n = 4 ∨ n = 5 ∨ n = 6 ∨ n = 7 ∨ n = 8 by omega) with rfl | rfl | rfl | rfl | rfl | rfl | rfl | rfl | rfl
  · exact c_X2_told0 l D cI cJ cZ cB κ h a r aw bw hei dra rai σ hw0
  · exact c_X2_told1 l D cI cJ cZ cB κ h a r aw bw hei dra rai σ hw0
  · exact c_X2_told2 l D cI cJ cZ cB κ h a r aw bw hei dra rai σ hw0
  · exact c_X2_told3 l D cI cJ cZ cB κ h a r aw bw hei dra rai σ hw0
  · exact c_X2_told4 l D cI cJ cZ cB κ h a r aw bw hei dra rai σ hw0
  · exact c_X2_told5 l D cI cJ cZ cB κ h a r aw bw hei dra rai σ hw0
  · exact c_X2_told6 l D cI cJ cZ cB κ h a r aw bw hei dra rai σ hw0
  · exact c_X2_told7 l D cI cJ cZ cB κ h a r aw bw hei dra rai σ hw0
  · exact c_X2_told8 l D cI cJ cZ cB κ h a r aw bw hei dra rai σ hw0
