set_option maxHeartbeats 1000000 in
set_option maxRecDepth 100000 in
/-- X1.isState  -/
theorem c_X1_isState (l : Launch) (D : va_G) (cI : ClassId) (x : Int32)  : Met l yX1_isState (Cond.code yX1_isState cX1_isState 1 (some .boolean) :: es_T) { frames := 0, cells := 0, slots := 0, locals := 0 } (va_Pc [.int x] (es_R D cI [])) (vp_Si (fun r => r = if 0 ≤ x ∧ x < nI 20 then (1 : Int32) else 0)) 0 0 (fun _ => False) := by
  refine Met.ofW (cc := cX1_isState) (maxL := 1) (ret := (some .boolean)) (by decide) rfl ?_
  intro p e s m args below meth c s₁ B hml hv
  obtain ⟨rfl, hP, hK⟩ := hv
  have hx := B.exec
  have hb := B.bytes
  have hr := B.returns
  have hts := atoms_spec (ws := (Cond.code yX1_isState cX1_isState 1 (some .boolean) :: es_T)) B.pre
  have hw : ∀ w ∈ es_T, w.before _ s = true := fun w h => hts w (List.mem_cons_of_mem _ h)
  have hown : s.vm.findClass RX1 = some m.cls := findClass_of_methodNamed B.named
  have hlocks := B.notSynchronized
  have hRm : 0 ≤ (headSpec (Cond.code yX1_isState cX1_isState 1 (some .boolean) :: es_T) { frames := 0, cells := 0, slots := 0, locals := 0 }).room.frames ∧ 0 ≤ (headSpec (Cond.code yX1_isState cX1_isState 1 (some .boolean) :: es_T) { frames := 0, cells := 0, slots := 0, locals := 0 }).room.locals := ⟨Nat.le_refl _, Nat.le_refl _⟩
  have hRc : 0 ≤ (headSpec (Cond.code yX1_isState cX1_isState 1 (some .boolean) :: es_T) { frames := 0, cells := 0, slots := 0, locals := 0 }).room.cells ∧ 0 ≤ (headSpec (Cond.code yX1_isState cX1_isState 1 (some .boolean) :: es_T) { frames := 0, cells := 0, slots := 0, locals := 0 }).room.slots := ⟨Nat.le_refl _, Nat.le_refl _⟩
  have hl := lv_entry ([.int x]) (n := 1) (Nat.le_of_ble_eq_true rfl)
  rw [lg_entry_eq]
  generalize (lg_sl ([.int x]) ++ List.replicate (1 - (lg_sl ([.int x])).length) Slot.unset).toArray = ls at hl ⊢
  have hl : lv_has ls 1 [(0, .int x)] := hl
  refine lv_iload_n hx hb dX1_isState_0 rfl (lv_at hl 0 rfl) ?_
  refine lv_if_lt (tgt := 14) hx hb dX1_isState_1 (by decide) (fun c_1 => ?_) (fun c_1 => ?_)
  ·
    refine lv_iconst (v := nI 0) hx hb dX1_isState_14 (by decide) ?_
    exact W.zret (v := nI 0) hx hb hr rfl (fun zt ht hW => ⟨_, rfl, (by show _ = _; first | (rw [if_pos ⟨Int32.not_lt.mp c_1, Int32.not_le.mp c_7⟩]; rfl) | (rw [if_neg (fun h => absurd c_1 (Int32.not_lt.mpr h.1))]; rfl) | (rw [if_neg (fun h => absurd h.2 (Int32.not_lt.mpr c_7))]; rfl)), ht⟩) (fun _ h => by cases h) dX1_isState_15
  ·
    refine lv_iload_n hx hb dX1_isState_4 rfl (lv_at hl 0 rfl) ?_
    refine lv_bipush (v := nI 20) hx hb dX1_isState_5 (by decide) ?_
    refine lv_icmp_ge (tgt := 14) hx hb dX1_isState_7 (by decide) (fun c_7 => ?_) (fun c_7 => ?_)
    ·
      refine lv_iconst (v := nI 0) hx hb dX1_isState_14 (by decide) ?_
      exact W.zret (v := nI 0) hx hb hr rfl (fun zt ht hW => ⟨_, rfl, (by show _ = _; first | (rw [if_pos ⟨Int32.not_lt.mp c_1, Int32.not_le.mp c_7⟩]; rfl) | (rw [if_neg (fun h => absurd c_1 (Int32.not_lt.mpr h.1))]; rfl) | (rw [if_neg (fun h => absurd h.2 (Int32.not_lt.mpr c_7))]; rfl)), ht⟩) (fun _ h => by cases h) dX1_isState_15
    ·
      refine lv_iconst (v := nI 1) hx hb dX1_isState_10 (by decide) ?_
      refine lv_goto (tgt := 15) hx hb dX1_isState_11 (by decide) ?_
      exact W.zret (v := nI 1) hx hb hr rfl (fun zt ht hW => ⟨_, rfl, (by show _ = _; first | (rw [if_pos ⟨Int32.not_lt.mp c_1, Int32.not_le.mp c_7⟩]; rfl) | (rw [if_neg (fun h => absurd c_1 (Int32.not_lt.mpr h.1))]; rfl) | (rw [if_neg (fun h => absurd h.2 (Int32.not_lt.mpr c_7))]; rfl)), ht⟩) (fun _ h => by cases h) dX1_isState_15
set_option maxHeartbeats 1000000 in
set_option maxRecDepth 100000 in
/-- X1.isSymbol  -/
theorem c_X1_isSymbol (l : Launch) (D : va_G) (cI : ClassId) (x : Int32)  : Met l yX1_isSymbol (Cond.code yX1_isSymbol cX1_isSymbol 1 (some .boolean) :: es_T) { frames := 0, cells := 0, slots := 0, locals := 0 } (va_Pc [.int x] (es_R D cI [])) (vp_Si (fun r => r = if 0 ≤ x ∧ x < nI 10 then (1 : Int32) else 0)) 0 0 (fun _ => False) := by
  refine Met.ofW (cc := cX1_isSymbol) (maxL := 1) (ret := (some .boolean)) (by decide) rfl ?_
  intro p e s m args below meth c s₁ B hml hv
  obtain ⟨rfl, hP, hK⟩ := hv
  have hx := B.exec
  have hb := B.bytes
  have hr := B.returns
  have hts := atoms_spec (ws := (Cond.code yX1_isSymbol cX1_isSymbol 1 (some .boolean) :: es_T)) B.pre
  have hw : ∀ w ∈ es_T, w.before _ s = true := fun w h => hts w (List.mem_cons_of_mem _ h)
  have hown : s.vm.findClass RX1 = some m.cls := findClass_of_methodNamed B.named
  have hlocks := B.notSynchronized
  have hRm : 0 ≤ (headSpec (Cond.code yX1_isSymbol cX1_isSymbol 1 (some .boolean) :: es_T) { frames := 0, cells := 0, slots := 0, locals := 0 }).room.frames ∧ 0 ≤ (headSpec (Cond.code yX1_isSymbol cX1_isSymbol 1 (some .boolean) :: es_T) { frames := 0, cells := 0, slots := 0, locals := 0 }).room.locals := ⟨Nat.le_refl _, Nat.le_refl _⟩
  have hRc : 0 ≤ (headSpec (Cond.code yX1_isSymbol cX1_isSymbol 1 (some .boolean) :: es_T) { frames := 0, cells := 0, slots := 0, locals := 0 }).room.cells ∧ 0 ≤ (headSpec (Cond.code yX1_isSymbol cX1_isSymbol 1 (some .boolean) :: es_T) { frames := 0, cells := 0, slots := 0, locals := 0 }).room.slots := ⟨Nat.le_refl _, Nat.le_refl _⟩
  have hl := lv_entry ([.int x]) (n := 1) (Nat.le_of_ble_eq_true rfl)
  rw [lg_entry_eq]
  generalize (lg_sl ([.int x]) ++ List.replicate (1 - (lg_sl ([.int x])).length) Slot.unset).toArray = ls at hl ⊢
  have hl : lv_has ls 1 [(0, .int x)] := hl
  refine lv_iload_n hx hb dX1_isSymbol_0 rfl (lv_at hl 0 rfl) ?_
  refine lv_if_lt (tgt := 14) hx hb dX1_isSymbol_1 (by decide) (fun c_1 => ?_) (fun c_1 => ?_)
  ·
    refine lv_iconst (v := nI 0) hx hb dX1_isSymbol_14 (by decide) ?_
    exact W.zret (v := nI 0) hx hb hr rfl (fun zt ht hW => ⟨_, rfl, (by show _ = _; first | (rw [if_pos ⟨Int32.not_lt.mp c_1, Int32.not_le.mp c_7⟩]; rfl) | (rw [if_neg (fun h => absurd c_1 (Int32.not_lt.mpr h.1))]; rfl) | (rw [if_neg (fun h => absurd h.2 (Int32.not_lt.mpr c_7))]; rfl)), ht⟩) (fun _ h => by cases h) dX1_isSymbol_15
  ·
    refine lv_iload_n hx hb dX1_isSymbol_4 rfl (lv_at hl 0 rfl) ?_
    refine lv_bipush (v := nI 10) hx hb dX1_isSymbol_5 (by decide) ?_
    refine lv_icmp_ge (tgt := 14) hx hb dX1_isSymbol_7 (by decide) (fun c_7 => ?_) (fun c_7 => ?_)
    ·
      refine lv_iconst (v := nI 0) hx hb dX1_isSymbol_14 (by decide) ?_
      exact W.zret (v := nI 0) hx hb hr rfl (fun zt ht hW => ⟨_, rfl, (by show _ = _; first | (rw [if_pos ⟨Int32.not_lt.mp c_1, Int32.not_le.mp c_7⟩]; rfl) | (rw [if_neg (fun h => absurd c_1 (Int32.not_lt.mpr h.1))]; rfl) | (rw [if_neg (fun h => absurd h.2 (Int32.not_lt.mpr c_7))]; rfl)), ht⟩) (fun _ h => by cases h) dX1_isSymbol_15
    ·
      refine lv_iconst (v := nI 1) hx hb dX1_isSymbol_10 (by decide) ?_
      refine lv_goto (tgt := 15) hx hb dX1_isSymbol_11 (by decide) ?_
      exact W.zret (v := nI 1) hx hb hr rfl (fun zt ht hW => ⟨_, rfl, (by show _ = _; first | (rw [if_pos ⟨Int32.not_lt.mp c_1, Int32.not_le.mp c_7⟩]; rfl) | (rw [if_neg (fun h => absurd c_1 (Int32.not_lt.mpr h.1))]; rfl) | (rw [if_neg (fun h => absurd h.2 (Int32.not_lt.mpr c_7))]; rfl)), ht⟩) (fun _ h => by cases h) dX1_isSymbol_15
set_option maxHeartbeats 1000000 in
set_option maxRecDepth 100000 in
/-- X1.next  -/
theorem c_X1_next (l : Launch) (D : va_G) (cI : ClassId) (tb : Nat) (a : Nat) (k : Nat) (ar : Nat → Int32) (ki : Nat → Int32) (q : Nat) (y : Int32) (hq : q < 20) (hy : y = -1 ∨ ∃ s : Nat, s < 10 ∧ y = nI s) : Met l yX1_next (Cond.code yX1_next cX1_next 3 (some .int) :: es_T) { frames := 1, cells := 0, slots := 0, locals := 20 } (va_Pc [.ref tb, .int (nI q), .int y] (es_R D cI [(tb, .inr (1, [.ref a, .ref k])), (a, .inl (cI, 200, .inl ar)), (k, .inl (cI, 20, .inl ki))])) (vp_Si (fun r => r = if y = -1 then -1 else ar (10 * q + y.toNatClampNeg))) 0 0 (fun _ => False) := by
  refine Met.ofW (cc := cX1_next) (maxL := 3) (ret := (some .int)) (by decide) rfl ?_
  intro p e s m args below meth c s₁ B hml hv
  obtain ⟨rfl, hP, hK⟩ := hv
  have hx := B.exec
  have hb := B.bytes
  have hr := B.returns
  have hts := atoms_spec (ws := (Cond.code yX1_next cX1_next 3 (some .int) :: es_T)) B.pre
  have hw : ∀ w ∈ es_T, w.before _ s = true := fun w h => hts w (List.mem_cons_of_mem _ h)
  have hown : s.vm.findClass RX1 = some m.cls := findClass_of_methodNamed B.named
  have hlocks := B.notSynchronized
  have hRm : 1 ≤ (headSpec (Cond.code yX1_next cX1_next 3 (some .int) :: es_T) { frames := 1, cells := 0, slots := 0, locals := 20 }).room.frames ∧ 20 ≤ (headSpec (Cond.code yX1_next cX1_next 3 (some .int) :: es_T) { frames := 1, cells := 0, slots := 0, locals := 20 }).room.locals := ⟨Nat.le_refl _, Nat.le_refl _⟩
  have hRc : 0 ≤ (headSpec (Cond.code yX1_next cX1_next 3 (some .int) :: es_T) { frames := 1, cells := 0, slots := 0, locals := 20 }).room.cells ∧ 0 ≤ (headSpec (Cond.code yX1_next cX1_next 3 (some .int) :: es_T) { frames := 1, cells := 0, slots := 0, locals := 20 }).room.slots := ⟨Nat.le_refl _, Nat.le_refl _⟩
  have hl := lv_entry ([.ref tb, .int (nI q), .int y]) (n := 3) (Nat.le_of_ble_eq_true rfl)
  rw [lg_entry_eq]
  generalize (lg_sl ([.ref tb, .int (nI q), .int y]) ++ List.replicate (3 - (lg_sl ([.ref tb, .int (nI q), .int y])).length) Slot.unset).toArray = ls at hl ⊢
  have hl : lv_has ls 3 [(0, .ref tb), (1, .int (nI q)), (2, .int y)] := hl
  rcases hy with rfl | ⟨s0, hs0, rfl⟩
  ·
    refine lv_iload_n hx hb dX1_next_0 rfl (lv_at hl 1 rfl) ?_
    refine vp_callSi (va_Run.run (va_runS (As := [.int (nI q)]) (rest := []) ⟨hx, hb, hml, hown, hw⟩ (c_X1_isState l D cI (nI q) ) (cwS 1 hw (es_s xw_115 xw_116 xw_117 xw_111) rfl rfl rfl kv_X1_isState ⟨Nat.le_trans (Nat.le_of_ble_eq_true rfl) hRm.1, Nat.le_trans (Nat.le_of_ble_eq_true rfl) hRm.2⟩) (es_RS hK (hP.sub (ws' := []) [] rfl)) rfl rfl hl.1 rfl (lv_room (Nat.le_of_ble_eq_true rfl)) dX1_next_1 ⟨(Nat.zero_le _), (Nat.zero_le _)⟩)) (fun r_1 er_1 => ?_)
    obtain rfl : r_1 = if 0 ≤ (nI q) ∧ (nI q) < nI 20 then (1 : Int32) else 0 := er_1
    refine es_top (y := nI 1) (es_yes hq (by decide)) ?_
    refine lv_if_eq (tgt := 28) hx hb dX1_next_4 (by decide) (fun c_4 => ?_) (fun c_4 => ?_)
    ·
      exact absurd c_4 (by decide)
    ·
      refine lv_iload_n hx hb dX1_next_7 rfl (lv_at hl 2 rfl) ?_
      refine vp_callSi (va_Run.run (va_runS (As := [.int (-1)]) (rest := []) ⟨hx, hb, hml, hown, hw⟩ (c_X1_isSymbol l D cI (-1) ) (cwS 1 hw (es_s xw_118 xw_119 xw_120 xw_111) rfl rfl rfl kv_X1_isSymbol ⟨Nat.le_trans (Nat.le_of_ble_eq_true rfl) hRm.1, Nat.le_trans (Nat.le_of_ble_eq_true rfl) hRm.2⟩) (es_RS hK (hP.sub (ws' := []) [] rfl)) rfl rfl hl.1 rfl (lv_room (Nat.le_of_ble_eq_true rfl)) dX1_next_8 ⟨(Nat.zero_le _), (Nat.zero_le _)⟩)) (fun r_2 er_2 => ?_)
      obtain rfl : r_2 = if 0 ≤ (-1) ∧ (-1) < nI 10 then (1 : Int32) else 0 := er_2
      refine es_top (y := nI 0) es_nom ?_
      refine lv_if_eq (tgt := 28) hx hb dX1_next_11 (by decide) (fun c_11 => ?_) (fun c_11 => ?_)
      ·
        refine lv_iconst (v := (-1)) hx hb dX1_next_28 (by decide) ?_
        exact W.iret (v := (-1)) hx hb hr (fun zt ht hW => ⟨_, rfl, (by show _ = _; rw [if_pos rfl]), ht⟩) (fun _ h => by cases h) dX1_next_29
      ·
        exact absurd c_11 (by decide)
  ·
    refine lv_iload_n hx hb dX1_next_0 rfl (lv_at hl 1 rfl) ?_
    refine vp_callSi (va_Run.run (va_runS (As := [.int (nI q)]) (rest := []) ⟨hx, hb, hml, hown, hw⟩ (c_X1_isState l D cI (nI q) ) (cwS 1 hw (es_s xw_115 xw_116 xw_117 xw_111) rfl rfl rfl kv_X1_isState ⟨Nat.le_trans (Nat.le_of_ble_eq_true rfl) hRm.1, Nat.le_trans (Nat.le_of_ble_eq_true rfl) hRm.2⟩) (es_RS hK (hP.sub (ws' := []) [] rfl)) rfl rfl hl.1 rfl (lv_room (Nat.le_of_ble_eq_true rfl)) dX1_next_1 ⟨(Nat.zero_le _), (Nat.zero_le _)⟩)) (fun r_3 er_3 => ?_)
    obtain rfl : r_3 = if 0 ≤ (nI q) ∧ (nI q) < nI 20 then (1 : Int32) else 0 := er_3
    refine es_top (y := nI 1) (es_yes hq (by decide)) ?_
    refine lv_if_eq (tgt := 28) hx hb dX1_next_4 (by decide) (fun c_4 => ?_) (fun c_4 => ?_)
    ·
      exact absurd c_4 (by decide)
    ·
      refine lv_iload_n hx hb dX1_next_7 rfl (lv_at hl 2 rfl) ?_
      refine vp_callSi (va_Run.run (va_runS (As := [.int (nI s0)]) (rest := []) ⟨hx, hb, hml, hown, hw⟩ (c_X1_isSymbol l D cI (nI s0) ) (cwS 1 hw (es_s xw_118 xw_119 xw_120 xw_111) rfl rfl rfl kv_X1_isSymbol ⟨Nat.le_trans (Nat.le_of_ble_eq_true rfl) hRm.1, Nat.le_trans (Nat.le_of_ble_eq_true rfl) hRm.2⟩) (es_RS hK (hP.sub (ws' := []) [] rfl)) rfl rfl hl.1 rfl (lv_room (Nat.le_of_ble_eq_true rfl)) dX1_next_8 ⟨(Nat.zero_le _), (Nat.zero_le _)⟩)) (fun r_4 er_4 => ?_)
      obtain rfl : r_4 = if 0 ≤ (nI s0) ∧ (nI s0) < nI 10 then (1 : Int32) else 0 := er_4
      refine es_top (y := nI 1) (es_yes hs0 (by decide)) ?_
      refine lv_if_eq (tgt := 28) hx hb dX1_next_11 (by decide) (fun c_11 => ?_) (fun c_11 => ?_)
      ·
        exact absurd c_11 (by decide)
      ·
        refine lv_aload_n hx hb dX1_next_14 rfl (lv_at hl 0 rfl) ?_
        refine va_get (D := D) (ci := 1) (v := .ref a) (C := RX1) (T := TX1) (N := 2) hx hb hw iwX1 hown hK.1 hP 0 rfl rfl 0 (by decide) (hw _ xw_103) (fun _ h9 => h9) rfl dX1_next_15 ?_
        refine lv_iload_n hx hb dX1_next_18 rfl (lv_at hl 1 rfl) ?_
        refine lv_bipush (v := nI 10) hx hb dX1_next_19 (by decide) ?_
        refine lv_imul hx hb dX1_next_21 ?_
        refine es_top (y := nI (q * 10)) (pk_mul _ _) ?_
        refine lv_iload_n hx hb dX1_next_22 rfl (lv_at hl 2 rfl) ?_
        refine lv_iadd hx hb dX1_next_23 ?_
        refine es_top (y := nI ((q * 10) + s0)) (nI_add _ _) ?_
        refine es_iald hx hb hK.1 hP 1 0 rfl rfl (by omega) (Nat.le_of_ble_eq_true rfl) dX1_next_24 ?_
        refine lv_goto (tgt := 29) hx hb dX1_next_25 (by decide) ?_
        exact W.iret (v := ar ((q * 10) + s0)) hx hb hr (fun zt ht hW => ⟨_, rfl, (by show _ = _; rw [if_neg (es_nnm (by omega)), nI_clamp (by omega), Nat.mul_comm q 10]), ht⟩) (fun _ h => by cases h) dX1_next_29
set_option maxHeartbeats 1000000 in
set_option maxRecDepth 100000 in
/-- X1.kindOf  -/
theorem c_X1_kindOf (l : Launch) (D : va_G) (cI : ClassId) (tb : Nat) (a : Nat) (k : Nat) (ar : Nat → Int32) (ki : Nat → Int32) (y : Int32) (hy : y = -1 ∨ ∃ s : Nat, s < 20 ∧ y = nI s) : Met l yX1_kindOf (Cond.code yX1_kindOf cX1_kindOf 2 (some .int) :: es_T) { frames := 1, cells := 0, slots := 0, locals := 20 } (va_Pc [.ref tb, .int y] (es_R D cI [(tb, .inr (1, [.ref a, .ref k])), (a, .inl (cI, 200, .inl ar)), (k, .inl (cI, 20, .inl ki))])) (vp_Si (fun r => r = if y = -1 then -1 else ki y.toNatClampNeg)) 0 0 (fun _ => False) := by
  refine Met.ofW (cc := cX1_kindOf) (maxL := 2) (ret := (some .int)) (by decide) rfl ?_
  intro p e s m args below meth c s₁ B hml hv
  obtain ⟨rfl, hP, hK⟩ := hv
  have hx := B.exec
  have hb := B.bytes
  have hr := B.returns
  have hts := atoms_spec (ws := (Cond.code yX1_kindOf cX1_kindOf 2 (some .int) :: es_T)) B.pre
  have hw : ∀ w ∈ es_T, w.before _ s = true := fun w h => hts w (List.mem_cons_of_mem _ h)
  have hown : s.vm.findClass RX1 = some m.cls := findClass_of_methodNamed B.named
  have hlocks := B.notSynchronized
  have hRm : 1 ≤ (headSpec (Cond.code yX1_kindOf cX1_kindOf 2 (some .int) :: es_T) { frames := 1, cells := 0, slots := 0, locals := 20 }).room.frames ∧ 20 ≤ (headSpec (Cond.code yX1_kindOf cX1_kindOf 2 (some .int) :: es_T) { frames := 1, cells := 0, slots := 0, locals := 20 }).room.locals := ⟨Nat.le_refl _, Nat.le_refl _⟩
  have hRc : 0 ≤ (headSpec (Cond.code yX1_kindOf cX1_kindOf 2 (some .int) :: es_T) { frames := 1, cells := 0, slots := 0, locals := 20 }).room.cells ∧ 0 ≤ (headSpec (Cond.code yX1_kindOf cX1_kindOf 2 (some .int) :: es_T) { frames := 1, cells := 0, slots := 0, locals := 20 }).room.slots := ⟨Nat.le_refl _, Nat.le_refl _⟩
  have hl := lv_entry ([.ref tb, .int y]) (n := 2) (Nat.le_of_ble_eq_true rfl)
  rw [lg_entry_eq]
  generalize (lg_sl ([.ref tb, .int y]) ++ List.replicate (2 - (lg_sl ([.ref tb, .int y])).length) Slot.unset).toArray = ls at hl ⊢
  have hl : lv_has ls 2 [(0, .ref tb), (1, .int y)] := hl
  rcases hy with rfl | ⟨s0, hs0, rfl⟩
  ·
    refine lv_iload_n hx hb dX1_kindOf_0 rfl (lv_at hl 1 rfl) ?_
    refine vp_callSi (va_Run.run (va_runS (As := [.int (-1)]) (rest := []) ⟨hx, hb, hml, hown, hw⟩ (c_X1_isState l D cI (-1) ) (cwS 1 hw (es_s xw_115 xw_116 xw_117 xw_111) rfl rfl rfl kv_X1_isState ⟨Nat.le_trans (Nat.le_of_ble_eq_true rfl) hRm.1, Nat.le_trans (Nat.le_of_ble_eq_true rfl) hRm.2⟩) (es_RS hK (hP.sub (ws' := []) [] rfl)) rfl rfl hl.1 rfl (lv_room (Nat.le_of_ble_eq_true rfl)) dX1_kindOf_1 ⟨(Nat.zero_le _), (Nat.zero_le _)⟩)) (fun r_1 er_1 => ?_)
    obtain rfl : r_1 = if 0 ≤ (-1) ∧ (-1) < nI 20 then (1 : Int32) else 0 := er_1
    refine es_top (y := nI 0) es_nom ?_
    refine lv_if_eq (tgt := 16) hx hb dX1_kindOf_4 (by decide) (fun c_4 => ?_) (fun c_4 => ?_)
    ·
      refine lv_iconst (v := (-1)) hx hb dX1_kindOf_16 (by decide) ?_
      exact W.iret (v := (-1)) hx hb hr (fun zt ht hW => ⟨_, rfl, (by show _ = _; rw [if_pos rfl]), ht⟩) (fun _ h => by cases h) dX1_kindOf_17
    ·
      exact absurd c_4 (by decide)
  ·
    refine lv_iload_n hx hb dX1_kindOf_0 rfl (lv_at hl 1 rfl) ?_
    refine vp_callSi (va_Run.run (va_runS (As := [.int (nI s0)]) (rest := []) ⟨hx, hb, hml, hown, hw⟩ (c_X1_isState l D cI (nI s0) ) (cwS 1 hw (es_s xw_115 xw_116 xw_117 xw_111) rfl rfl rfl kv_X1_isState ⟨Nat.le_trans (Nat.le_of_ble_eq_true rfl) hRm.1, Nat.le_trans (Nat.le_of_ble_eq_true rfl) hRm.2⟩) (es_RS hK (hP.sub (ws' := []) [] rfl)) rfl rfl hl.1 rfl (lv_room (Nat.le_of_ble_eq_true rfl)) dX1_kindOf_1 ⟨(Nat.zero_le _), (Nat.zero_le _)⟩)) (fun r_2 er_2 => ?_)
    obtain rfl : r_2 = if 0 ≤ (nI s0) ∧ (nI s0) < nI 20 then (1 : Int32) else 0 := er_2
    refine es_top (y := nI 1) (es_yes hs0 (by decide)) ?_
    refine lv_if_eq (tgt := 16) hx hb dX1_kindOf_4 (by decide) (fun c_4 => ?_) (fun c_4 => ?_)
    ·
      exact absurd c_4 (by decide)
    ·
      refine lv_aload_n hx hb dX1_kindOf_7 rfl (lv_at hl 0 rfl) ?_
      refine va_get (D := D) (ci := 1) (v := .ref k) (C := RX1) (T := TX1) (N := 2) hx hb hw iwX1 hown hK.1 hP 0 rfl rfl 1 (by decide) (hw _ xw_108) (fun _ h9 => h9) rfl dX1_kindOf_8 ?_
      refine lv_iload_n hx hb dX1_kindOf_11 rfl (lv_at hl 1 rfl) ?_
      refine es_iald hx hb hK.1 hP 2 0 rfl rfl (by omega) (Nat.le_of_ble_eq_true rfl) dX1_kindOf_12 ?_
      refine lv_goto (tgt := 17) hx hb dX1_kindOf_13 (by decide) ?_
      exact W.iret (v := ki s0) hx hb hr (fun zt ht hW => ⟨_, rfl, (by show _ = _; rw [if_neg (es_nnm (by omega)), nI_clamp (by omega)]), ht⟩) (fun _ h => by cases h) dX1_kindOf_17
set_option maxHeartbeats 1000000 in
set_option maxRecDepth 100000 in
theorem lp_fill {p : Program} {l : Launch} {e : Env} {R : Room} {s : State} {m : MethodId} {args : Array Value} {below : List Frame} {meth : Method} {c : Code} {Q : State → Prop} {A : Nat → Prop} {H0 : Heap} (D : va_G) (cI : ClassId) (a : Nat) (M : Nat) (v : Int32) (hx : p.tables.exec = Jvm.exec) (hb : c.code = cJ7_fill_53178) (hml : c.maxLocals = 4) (hown : s.vm.findClass RJ7 = some m.cls) (hw : ∀ w ∈ es_T, w.before args s = true) (hK : es_K D cI s) (hRm : 0 ≤ R.frames ∧ 0 ≤ R.locals) (hA : ∀ q : Nat, H0.size ≤ q → A q) (hM : M < 2 ^ 31) (hex : ∀ (g : Nat → Int32), (∀ j, j < M → g j = v) → ∀ (H : Heap) (locs : List Loc), va_P D vwCl [(a, .inl (cI, M, .inl g))] H → va_D A [(a, .inl (cI, M, .inl g))] → va_S A H0 H locs → ∀ (ls : Array Slot), lv_has ls 4 [(0, .ref a)] →  W p l e R s m args below meth c H locs 0 0 Q (F0 m 20 ls [])) : ∀ (N : Nat) (i : Nat) (g : Nat → Int32), (i ≤ M) → (∀ j, j < i → g j = v) → (M - i) < N → ∀ (H : Heap) (locs : List Loc), va_P D vwCl [(a, .inl (cI, M, .inl g))] H → va_D A [(a, .inl (cI, M, .inl g))] → va_S A H0 H locs → ∀ (ls : Array Slot), lv_has ls 4 [(0, .ref a), (1, .int v), (2, .int (nI i)), (3, .int (nI M))] →  W p l e R s m args below meth c H locs 0 0 Q (F0 m 5 ls []) := by
  intro N
  induction N with
  | zero =>
    intro i g hi hg hN
    exact absurd hN (Nat.not_lt_zero _)
  | succ N ih =>
    intro i g hi hg hN H locs hP hD hS ls hl
    refine lv_iload_n hx hb dJ7_fill_53178_5 rfl (lv_at hl 2 rfl) ?_
    refine lv_iload_n hx hb dJ7_fill_53178_6 rfl (lv_at hl 3 rfl) ?_
    refine lv_icmp_ge (tgt := 20) hx hb dJ7_fill_53178_7 (by decide) (fun c_7 => ?_) (fun c_7 => ?_)
    ·
      have c_7 := (nI_leI (by omega) (by omega)).mp c_7
      exact hex g (fun j hj => hg j (by omega))  H locs (hP.sub [0] rfl) (hD.sub [0] (by decide) rfl) hS ls (lv_sub hl [0] rfl)
    ·
      have c_7 := (mt (nI_leI (by omega) (by omega)).mpr c_7)
      refine lv_aload_n hx hb dJ7_fill_53178_10 rfl (lv_at hl 0 rfl) ?_
      refine lv_iload_n hx hb dJ7_fill_53178_11 rfl (lv_at hl 2 rfl) ?_
      refine lv_iload_n hx hb dJ7_fill_53178_12 rfl (lv_at hl 1 rfl) ?_
      refine es_iast hx hb hK.1 hP hD hS 0 0 rfl rfl (by omega) (by omega) dJ7_fill_53178_13 (fun H locs hP hD hS => ?_)
      have hP : va_P D vwCl [(a, .inl (cI, M, .inl (upd g i v)))] H := hP
      have hD : va_D A [(a, .inl (cI, M, .inl (upd g i v)))] := hD
      refine lv_iinc (v := nI (i + 1)) (lv' := [(2, .int (nI (i + 1))), (0, .ref a), (1, .int v), (3, .int (nI M))]) hx hb dJ7_fill_53178_14 hl (k := 2) rfl (nI_1 _) (by decide) rfl (fun ls hl => ?_)
      refine lv_goto (tgt := 5) hx hb dJ7_fill_53178_17 (by decide) ?_
      exact ih (i + 1) (upd g i v) (by omega) (es_ext hg) (by omega) H locs (hP.sub [0] rfl) (hD.sub [0] (by decide) rfl) hS ls (lv_sub hl [1, 2, 0, 3] rfl)
set_option maxHeartbeats 1000000 in
set_option maxRecDepth 100000 in
/-- J7.fill  -/
theorem c_J7_fill_53178 (l : Launch) (D : va_G) (cI : ClassId) (sz : Nat) (a : Nat) (M : Nat) (f : Nat → Int32) (v : Int32) (hM : M < 2 ^ 31) : Met l yJ7_fill_53178 (Cond.code yJ7_fill_53178 cJ7_fill_53178 4 none :: es_T) { frames := 0, cells := 0, slots := 0, locals := 0 } (va_Pc [.ref a, .int v] (es_W D cI sz [(a, .inl (cI, M, .inl f))])) (va_Qv (fun _ => True) (fun (u : Unit) zt => va_P D vwCl [(a, .inl (cI, M, .inl (fun _ => v)))] zt.heap ∧ va_D (va_A [(a, .inl (cI, M, .inl f))] sz) [(a, .inl (cI, M, .inl (fun _ => v)))]) (va_A [(a, .inl (cI, M, .inl f))] sz)) 0 0 (va_A [(a, .inl (cI, M, .inl f))] sz) := by
  refine Met.ofW (cc := cJ7_fill_53178) (maxL := 4) (ret := none) (by decide) rfl ?_
  intro p e s m args below meth c s₁ B hml hv
  obtain ⟨rfl, hsz, hP, hK, hD0⟩ := hv
  have hx := B.exec
  have hb := B.bytes
  have hr := B.returns
  have hts := atoms_spec (ws := (Cond.code yJ7_fill_53178 cJ7_fill_53178 4 none :: es_T)) B.pre
  have hw : ∀ w ∈ es_T, w.before _ s = true := fun w h => hts w (List.mem_cons_of_mem _ h)
  have hown : s.vm.findClass RJ7 = some m.cls := findClass_of_methodNamed B.named
  have hlocks := B.notSynchronized
  have hRm : 0 ≤ (headSpec (Cond.code yJ7_fill_53178 cJ7_fill_53178 4 none :: es_T) { frames := 0, cells := 0, slots := 0, locals := 0 }).room.frames ∧ 0 ≤ (headSpec (Cond.code yJ7_fill_53178 cJ7_fill_53178 4 none :: es_T) { frames := 0, cells := 0, slots := 0, locals := 0 }).room.locals := ⟨Nat.le_refl _, Nat.le_refl _⟩
  have hRc : 0 ≤ (headSpec (Cond.code yJ7_fill_53178 cJ7_fill_53178 4 none :: es_T) { frames := 0, cells := 0, slots := 0, locals := 0 }).room.cells ∧ 0 ≤ (headSpec (Cond.code yJ7_fill_53178 cJ7_fill_53178 4 none :: es_T) { frames := 0, cells := 0, slots := 0, locals := 0 }).room.slots := ⟨Nat.le_refl _, Nat.le_refl _⟩
  subst hsz
  have hD := hD0.self (sz := s.heap.size)
  generalize hAe : va_A [(a, .inl (cI, M, .inl f))] s.heap.size = A at hD ⊢
  have hA : ∀ q : Nat, s.heap.size ≤ q → A q := fun q h => by rw [← hAe]; exact Or.inr h
  have hS : va_S A s.heap s.heap [] := va_S.rf
  have hl := lv_entry ([.ref a, .int v]) (n := 4) (Nat.le_of_ble_eq_true rfl)
  rw [lg_entry_eq]
  generalize (lg_sl ([.ref a, .int v]) ++ List.replicate (4 - (lg_sl ([.ref a, .int v])).length) Slot.unset).toArray = ls at hl ⊢
  have hl : lv_has ls 4 [(0, .ref a), (1, .int v)] := hl
  refine lv_iconst (v := nI 0) hx hb dJ7_fill_53178_0 (by decide) ?_
  refine lv_istore_n (lv' := [(2, .int (nI 0)), (0, .ref a), (1, .int v)]) hx hb dJ7_fill_53178_1 rfl hl (by decide) rfl (fun ls hl => ?_)
  refine lv_aload_n hx hb dJ7_fill_53178_2 rfl (lv_at hl 1 rfl) ?_
  refine va_alen hx hb hK.1 hP 0 0 rfl rfl (v := nI M) rfl dJ7_fill_53178_3 ?_
  refine lv_istore_n (lv' := [(3, .int (nI M)), (2, .int (nI 0)), (0, .ref a), (1, .int v)]) hx hb dJ7_fill_53178_4 rfl hl (by decide) rfl (fun ls hl => ?_)
  refine lp_fill D cI a M v hx hb hml hown hw hK ⟨Nat.le_trans (Nat.le_of_ble_eq_true rfl) hRm.1, Nat.le_trans (Nat.le_of_ble_eq_true rfl) hRm.2⟩ hA (by first | assumption | omega) (fun g hg H locs hP hD hS ls hl => ?_) ((M - 0) + 1) 0 f (Nat.zero_le _) (fun j hj => absurd hj (Nat.not_lt_zero _)) (Nat.lt_succ_self _) s.heap [] (hP.sub [0] rfl) (hD.sub [0] (by decide) rfl) hS ls (lv_sub hl [2, 3, 1, 0] rfl)
  obtain ⟨hP, hD⟩ := es_P_arr hP hD 0 rfl (fun _ => v) hg
  have hP : va_P D vwCl [(a, .inl (cI, M, .inl (fun _ => v)))] H := hP
  have hD : va_D A [(a, .inl (cI, M, .inl (fun _ => v)))] := hD
  exact W.vret hx hb hr (fun zt ht hW => ⟨⟨(), rfl, trivial, ⟨by rw [ht]; exact hP.sub [0] rfl, hD.sub [0] (by decide) rfl⟩⟩, hS.F ht⟩) hS.2.2 dJ7_fill_53178_20
