set_option maxHeartbeats 1000000 in
set_option maxRecDepth 100000 in
/-- X0.forget  -/
theorem c_X0_forget (l : Launch) (D : va_G) (cI : ClassId) (sz : Nat) (f : Nat) (b0 : Nat) (b1 : Nat) (b2 : Nat) (b3 : Nat) (F : Nat → Nat → Int32) (n : Nat)  : Met l yX0_forget (Cond.code yX0_forget cX0_forget 1 none :: es_T) { frames := 0, cells := 0, slots := 0, locals := 0 } (va_Pc [.ref f] (es_W D cI sz [(f, .inr (0, [.ref b0, .ref b1, .ref b2, .ref b3, .int (nI n)])), (b0, .inl (cI, 400, .inl (F 0))), (b1, .inl (cI, 400, .inl (F 1))), (b2, .inl (cI, 400, .inl (F 2))), (b3, .inl (cI, 400, .inl (F 3)))])) (va_Qv (fun _ => True) (fun (u : Unit) zt => va_P D vwCl [(f, .inr (0, [.ref b0, .ref b1, .ref b2, .ref b3, .int (nI 0)])), (b0, .inl (cI, 400, .inl (F 0))), (b1, .inl (cI, 400, .inl (F 1))), (b2, .inl (cI, 400, .inl (F 2))), (b3, .inl (cI, 400, .inl (F 3)))] zt.heap ∧ va_D (va_A [(f, .inr (0, [.ref b0, .ref b1, .ref b2, .ref b3, .int (nI n)])), (b0, .inl (cI, 400, .inl (F 0))), (b1, .inl (cI, 400, .inl (F 1))), (b2, .inl (cI, 400, .inl (F 2))), (b3, .inl (cI, 400, .inl (F 3)))] sz) [(f, .inr (0, [.ref b0, .ref b1, .ref b2, .ref b3, .int (nI 0)])), (b0, .inl (cI, 400, .inl (F 0))), (b1, .inl (cI, 400, .inl (F 1))), (b2, .inl (cI, 400, .inl (F 2))), (b3, .inl (cI, 400, .inl (F 3)))]) (va_A [(f, .inr (0, [.ref b0, .ref b1, .ref b2, .ref b3, .int (nI n)])), (b0, .inl (cI, 400, .inl (F 0))), (b1, .inl (cI, 400, .inl (F 1))), (b2, .inl (cI, 400, .inl (F 2))), (b3, .inl (cI, 400, .inl (F 3)))] sz)) 0 0 (va_A [(f, .inr (0, [.ref b0, .ref b1, .ref b2, .ref b3, .int (nI n)])), (b0, .inl (cI, 400, .inl (F 0))), (b1, .inl (cI, 400, .inl (F 1))), (b2, .inl (cI, 400, .inl (F 2))), (b3, .inl (cI, 400, .inl (F 3)))] sz) := by
  refine Met.ofW (cc := cX0_forget) (maxL := 1) (ret := none) (by decide) rfl ?_
  intro p e s m args below meth c s₁ B hml hv
  obtain ⟨rfl, hsz, hP, hK, hD0⟩ := hv
  have hx := B.exec
  have hb := B.bytes
  have hr := B.returns
  have hts := atoms_spec (ws := (Cond.code yX0_forget cX0_forget 1 none :: es_T)) B.pre
  have hw : ∀ w ∈ es_T, w.before _ s = true := fun w h => hts w (List.mem_cons_of_mem _ h)
  have hown : s.vm.findClass RX0 = some m.cls := findClass_of_methodNamed B.named
  have hlocks := B.notSynchronized
  have hRm : 0 ≤ (headSpec (Cond.code yX0_forget cX0_forget 1 none :: es_T) { frames := 0, cells := 0, slots := 0, locals := 0 }).room.frames ∧ 0 ≤ (headSpec (Cond.code yX0_forget cX0_forget 1 none :: es_T) { frames := 0, cells := 0, slots := 0, locals := 0 }).room.locals := ⟨Nat.le_refl _, Nat.le_refl _⟩
  have hRc : 0 ≤ (headSpec (Cond.code yX0_forget cX0_forget 1 none :: es_T) { frames := 0, cells := 0, slots := 0, locals := 0 }).room.cells ∧ 0 ≤ (headSpec (Cond.code yX0_forget cX0_forget 1 none :: es_T) { frames := 0, cells := 0, slots := 0, locals := 0 }).room.slots := ⟨Nat.le_refl _, Nat.le_refl _⟩
  subst hsz
  have hD := hD0.self (sz := s.heap.size)
  generalize hAe : va_A [(f, .inr (0, [.ref b0, .ref b1, .ref b2, .ref b3, .int (nI n)])), (b0, .inl (cI, 400, .inl (F 0))), (b1, .inl (cI, 400, .inl (F 1))), (b2, .inl (cI, 400, .inl (F 2))), (b3, .inl (cI, 400, .inl (F 3)))] s.heap.size = A at hD ⊢
  have hA : ∀ q : Nat, s.heap.size ≤ q → A q := fun q h => by rw [← hAe]; exact Or.inr h
  have hS : va_S A s.heap s.heap [] := va_S.rf
  have hl := lv_entry ([.ref f]) (n := 1) (Nat.le_of_ble_eq_true rfl)
  rw [lg_entry_eq]
  generalize (lg_sl ([.ref f]) ++ List.replicate (1 - (lg_sl ([.ref f])).length) Slot.unset).toArray = ls at hl ⊢
  have hl : lv_has ls 1 [(0, .ref f)] := hl
  refine lv_aload_n hx hb dX0_forget_0 rfl (lv_at hl 0 rfl) ?_
  refine lv_iconst (v := nI 0) hx hb dX0_forget_1 (by decide) ?_
  refine va_put (D := D) (ci := 0) (v := .int (nI 0)) (ty := .int) (C := RX0) (T := TX0) (N := 5) hx hb hw iwX0 tyX0 tyX0_ok nmX0 hown hK.1 hP hD hS 0 rfl rfl 4 (by decide) (hw _ xw_77) (fun _ h9 => h9) rfl (by decide +kernel) rfl rfl (Nat.le_of_ble_eq_true rfl) dX0_forget_2 (fun H locs hP hD hS => ?_)
  have hP : va_P D vwCl [(f, .inr (0, [.ref b0, .ref b1, .ref b2, .ref b3, .int (nI 0)])), (b0, .inl (cI, 400, .inl (F 0))), (b1, .inl (cI, 400, .inl (F 1))), (b2, .inl (cI, 400, .inl (F 2))), (b3, .inl (cI, 400, .inl (F 3)))] H := hP
  have hD : va_D A [(f, .inr (0, [.ref b0, .ref b1, .ref b2, .ref b3, .int (nI 0)])), (b0, .inl (cI, 400, .inl (F 0))), (b1, .inl (cI, 400, .inl (F 1))), (b2, .inl (cI, 400, .inl (F 2))), (b3, .inl (cI, 400, .inl (F 3)))] := hD
  exact W.vret hx hb hr (fun zt ht hW => ⟨⟨(), rfl, trivial, ⟨by rw [ht]; exact hP.sub [0, 1, 2, 3, 4] rfl, hD.sub [0, 1, 2, 3, 4] (by decide) rfl⟩⟩, hS.F ht⟩) hS.2.2 dX0_forget_5
set_option maxHeartbeats 1000000 in
set_option maxRecDepth 100000 in
/-- X0.size  -/
theorem c_X0_size (l : Launch) (D : va_G) (cI : ClassId) (f : Nat) (b0 : Nat) (b1 : Nat) (b2 : Nat) (b3 : Nat) (F : Nat → Nat → Int32) (n : Nat)  : Met l yX0_size (Cond.code yX0_size cX0_size 1 (some .int) :: es_T) { frames := 0, cells := 0, slots := 0, locals := 0 } (va_Pc [.ref f] (es_R D cI [(f, .inr (0, [.ref b0, .ref b1, .ref b2, .ref b3, .int (nI n)])), (b0, .inl (cI, 400, .inl (F 0))), (b1, .inl (cI, 400, .inl (F 1))), (b2, .inl (cI, 400, .inl (F 2))), (b3, .inl (cI, 400, .inl (F 3)))])) (vp_Si (fun r => r = nI n)) 0 0 (fun _ => False) := by
  refine Met.ofW (cc := cX0_size) (maxL := 1) (ret := (some .int)) (by decide) rfl ?_
  intro p e s m args below meth c s₁ B hml hv
  obtain ⟨rfl, hP, hK⟩ := hv
  have hx := B.exec
  have hb := B.bytes
  have hr := B.returns
  have hts := atoms_spec (ws := (Cond.code yX0_size cX0_size 1 (some .int) :: es_T)) B.pre
  have hw : ∀ w ∈ es_T, w.before _ s = true := fun w h => hts w (List.mem_cons_of_mem _ h)
  have hown : s.vm.findClass RX0 = some m.cls := findClass_of_methodNamed B.named
  have hlocks := B.notSynchronized
  have hRm : 0 ≤ (headSpec (Cond.code yX0_size cX0_size 1 (some .int) :: es_T) { frames := 0, cells := 0, slots := 0, locals := 0 }).room.frames ∧ 0 ≤ (headSpec (Cond.code yX0_size cX0_size 1 (some .int) :: es_T) { frames := 0, cells := 0, slots := 0, locals := 0 }).room.locals := ⟨Nat.le_refl _, Nat.le_refl _⟩
  have hRc : 0 ≤ (headSpec (Cond.code yX0_size cX0_size 1 (some .int) :: es_T) { frames := 0, cells := 0, slots := 0, locals := 0 }).room.cells ∧ 0 ≤ (headSpec (Cond.code yX0_size cX0_size 1 (some .int) :: es_T) { frames := 0, cells := 0, slots := 0, locals := 0 }).room.slots := ⟨Nat.le_refl _, Nat.le_refl _⟩
  have hl := lv_entry ([.ref f]) (n := 1) (Nat.le_of_ble_eq_true rfl)
  rw [lg_entry_eq]
  generalize (lg_sl ([.ref f]) ++ List.replicate (1 - (lg_sl ([.ref f])).length) Slot.unset).toArray = ls at hl ⊢
  have hl : lv_has ls 1 [(0, .ref f)] := hl
  refine lv_aload_n hx hb dX0_size_0 rfl (lv_at hl 0 rfl) ?_
  refine va_get (D := D) (ci := 0) (v := .int (nI n)) (C := RX0) (T := TX0) (N := 5) hx hb hw iwX0 hown hK.1 hP 0 rfl rfl 4 (by decide) (hw _ xw_77) (fun _ h9 => h9) rfl dX0_size_1 ?_
  exact W.iret (v := nI n) hx hb hr (fun zt ht hW => ⟨_, rfl, rfl, ht⟩) (fun _ h => by cases h) dX0_size_4
set_option maxHeartbeats 1000000 in
set_option maxRecDepth 100000 in
/-- X0.has  -/
theorem c_X0_has (l : Launch) (D : va_G) (cI : ClassId) (f : Nat) (b0 : Nat) (b1 : Nat) (b2 : Nat) (b3 : Nat) (F : Nat → Nat → Int32) (n : Nat) (x : Int32)  : Met l yX0_has (Cond.code yX0_has cX0_has 2 (some .boolean) :: es_T) { frames := 0, cells := 0, slots := 0, locals := 0 } (va_Pc [.ref f, .int x] (es_R D cI [(f, .inr (0, [.ref b0, .ref b1, .ref b2, .ref b3, .int (nI n)])), (b0, .inl (cI, 400, .inl (F 0))), (b1, .inl (cI, 400, .inl (F 1))), (b2, .inl (cI, 400, .inl (F 2))), (b3, .inl (cI, 400, .inl (F 3)))])) (vp_Si (fun r => r = if 0 ≤ x ∧ x < nI n then (1 : Int32) else 0)) 0 0 (fun _ => False) := by
  refine Met.ofW (cc := cX0_has) (maxL := 2) (ret := (some .boolean)) (by decide) rfl ?_
  intro p e s m args below meth c s₁ B hml hv
  obtain ⟨rfl, hP, hK⟩ := hv
  have hx := B.exec
  have hb := B.bytes
  have hr := B.returns
  have hts := atoms_spec (ws := (Cond.code yX0_has cX0_has 2 (some .boolean) :: es_T)) B.pre
  have hw : ∀ w ∈ es_T, w.before _ s = true := fun w h => hts w (List.mem_cons_of_mem _ h)
  have hown : s.vm.findClass RX0 = some m.cls := findClass_of_methodNamed B.named
  have hlocks := B.notSynchronized
  have hRm : 0 ≤ (headSpec (Cond.code yX0_has cX0_has 2 (some .boolean) :: es_T) { frames := 0, cells := 0, slots := 0, locals := 0 }).room.frames ∧ 0 ≤ (headSpec (Cond.code yX0_has cX0_has 2 (some .boolean) :: es_T) { frames := 0, cells := 0, slots := 0, locals := 0 }).room.locals := ⟨Nat.le_refl _, Nat.le_refl _⟩
  have hRc : 0 ≤ (headSpec (Cond.code yX0_has cX0_has 2 (some .boolean) :: es_T) { frames := 0, cells := 0, slots := 0, locals := 0 }).room.cells ∧ 0 ≤ (headSpec (Cond.code yX0_has cX0_has 2 (some .boolean) :: es_T) { frames := 0, cells := 0, slots := 0, locals := 0 }).room.slots := ⟨Nat.le_refl _, Nat.le_refl _⟩
  have hl := lv_entry ([.ref f, .int x]) (n := 2) (Nat.le_of_ble_eq_true rfl)
  rw [lg_entry_eq]
  generalize (lg_sl ([.ref f, .int x]) ++ List.replicate (2 - (lg_sl ([.ref f, .int x])).length) Slot.unset).toArray = ls at hl ⊢
  have hl : lv_has ls 2 [(0, .ref f), (1, .int x)] := hl
  refine lv_iload_n hx hb dX0_has_0 rfl (lv_at hl 1 rfl) ?_
  refine lv_if_lt (tgt := 16) hx hb dX0_has_1 (by decide) (fun c_1 => ?_) (fun c_1 => ?_)
  ·
    refine lv_iconst (v := nI 0) hx hb dX0_has_16 (by decide) ?_
    exact W.zret (v := nI 0) hx hb hr rfl (fun zt ht hW => ⟨_, rfl, (by show _ = _; first | (rw [if_pos ⟨Int32.not_lt.mp c_1, Int32.not_le.mp c_9⟩]; rfl) | (rw [if_neg (fun h => absurd c_1 (Int32.not_lt.mpr h.1))]; rfl) | (rw [if_neg (fun h => absurd h.2 (Int32.not_lt.mpr c_9))]; rfl)), ht⟩) (fun _ h => by cases h) dX0_has_17
  ·
    refine lv_iload_n hx hb dX0_has_4 rfl (lv_at hl 1 rfl) ?_
    refine lv_aload_n hx hb dX0_has_5 rfl (lv_at hl 0 rfl) ?_
    refine va_get (D := D) (ci := 0) (v := .int (nI n)) (C := RX0) (T := TX0) (N := 5) hx hb hw iwX0 hown hK.1 hP 0 rfl rfl 4 (by decide) (hw _ xw_77) (fun _ h9 => h9) rfl dX0_has_6 ?_
    refine lv_icmp_ge (tgt := 16) hx hb dX0_has_9 (by decide) (fun c_9 => ?_) (fun c_9 => ?_)
    ·
      refine lv_iconst (v := nI 0) hx hb dX0_has_16 (by decide) ?_
      exact W.zret (v := nI 0) hx hb hr rfl (fun zt ht hW => ⟨_, rfl, (by show _ = _; first | (rw [if_pos ⟨Int32.not_lt.mp c_1, Int32.not_le.mp c_9⟩]; rfl) | (rw [if_neg (fun h => absurd c_1 (Int32.not_lt.mpr h.1))]; rfl) | (rw [if_neg (fun h => absurd h.2 (Int32.not_lt.mpr c_9))]; rfl)), ht⟩) (fun _ h => by cases h) dX0_has_17
    ·
      refine lv_iconst (v := nI 1) hx hb dX0_has_12 (by decide) ?_
      refine lv_goto (tgt := 17) hx hb dX0_has_13 (by decide) ?_
      exact W.zret (v := nI 1) hx hb hr rfl (fun zt ht hW => ⟨_, rfl, (by show _ = _; first | (rw [if_pos ⟨Int32.not_lt.mp c_1, Int32.not_le.mp c_9⟩]; rfl) | (rw [if_neg (fun h => absurd c_1 (Int32.not_lt.mpr h.1))]; rfl) | (rw [if_neg (fun h => absurd h.2 (Int32.not_lt.mpr c_9))]; rfl)), ht⟩) (fun _ h => by cases h) dX0_has_17
set_option maxHeartbeats 1000000 in
set_option maxRecDepth 100000 in
/-- X0.failed  -/
theorem c_X0_failed (l : Launch) (D : va_G) (cI : ClassId) (f : Nat) (b0 : Nat) (b1 : Nat) (b2 : Nat) (b3 : Nat) (F : Nat → Nat → Int32) (n : Nat) (hn : n ≤ 400) : Met l yX0_failed (Cond.code yX0_failed cX0_failed 1 (some .boolean) :: es_T) { frames := 0, cells := 0, slots := 0, locals := 0 } (va_Pc [.ref f] (es_R D cI [(f, .inr (0, [.ref b0, .ref b1, .ref b2, .ref b3, .int (nI n)])), (b0, .inl (cI, 400, .inl (F 0))), (b1, .inl (cI, 400, .inl (F 1))), (b2, .inl (cI, 400, .inl (F 2))), (b3, .inl (cI, 400, .inl (F 3)))])) (vp_Si (fun r => r = if 0 < n ∧ F 1 (n - 1) = 0 then (1 : Int32) else 0)) 0 0 (fun _ => False) := by
  refine Met.ofW (cc := cX0_failed) (maxL := 1) (ret := (some .boolean)) (by decide) rfl ?_
  intro p e s m args below meth c s₁ B hml hv
  obtain ⟨rfl, hP, hK⟩ := hv
  have hx := B.exec
  have hb := B.bytes
  have hr := B.returns
  have hts := atoms_spec (ws := (Cond.code yX0_failed cX0_failed 1 (some .boolean) :: es_T)) B.pre
  have hw : ∀ w ∈ es_T, w.before _ s = true := fun w h => hts w (List.mem_cons_of_mem _ h)
  have hown : s.vm.findClass RX0 = some m.cls := findClass_of_methodNamed B.named
  have hlocks := B.notSynchronized
  have hRm : 0 ≤ (headSpec (Cond.code yX0_failed cX0_failed 1 (some .boolean) :: es_T) { frames := 0, cells := 0, slots := 0, locals := 0 }).room.frames ∧ 0 ≤ (headSpec (Cond.code yX0_failed cX0_failed 1 (some .boolean) :: es_T) { frames := 0, cells := 0, slots := 0, locals := 0 }).room.locals := ⟨Nat.le_refl _, Nat.le_refl _⟩
  have hRc : 0 ≤ (headSpec (Cond.code yX0_failed cX0_failed 1 (some .boolean) :: es_T) { frames := 0, cells := 0, slots := 0, locals := 0 }).room.cells ∧ 0 ≤ (headSpec (Cond.code yX0_failed cX0_failed 1 (some .boolean) :: es_T) { frames := 0, cells := 0, slots := 0, locals := 0 }).room.slots := ⟨Nat.le_refl _, Nat.le_refl _⟩
  have hl := lv_entry ([.ref f]) (n := 1) (Nat.le_of_ble_eq_true rfl)
  rw [lg_entry_eq]
  generalize (lg_sl ([.ref f]) ++ List.replicate (1 - (lg_sl ([.ref f])).length) Slot.unset).toArray = ls at hl ⊢
  have hl : lv_has ls 1 [(0, .ref f)] := hl
  refine lv_aload_n hx hb dX0_failed_0 rfl (lv_at hl 0 rfl) ?_
  refine va_get (D := D) (ci := 0) (v := .int (nI n)) (C := RX0) (T := TX0) (N := 5) hx hb hw iwX0 hown hK.1 hP 0 rfl rfl 4 (by decide) (hw _ xw_77) (fun _ h9 => h9) rfl dX0_failed_1 ?_
  refine lv_if_le (tgt := 25) hx hb dX0_failed_4 (by decide) (fun c_4 => ?_) (fun c_4 => ?_)
  ·
    have c_4 := (nI_leI (a := n) (b := 0) (by omega) (by omega)).mp c_4
    refine lv_iconst (v := nI 0) hx hb dX0_failed_25 (by decide) ?_
    exact W.zret (v := nI 0) hx hb hr rfl (fun zt ht hW => ⟨_, rfl, (by show _ = _; first | (rw [if_pos ⟨by omega, c_18⟩]; rfl) | (rw [if_neg (fun h => by omega)]; rfl) | (rw [if_neg (fun h => absurd h.2 c_18)]; rfl)), ht⟩) (fun _ h => by cases h) dX0_failed_26
  ·
    have c_4 := (mt (nI_leI (a := n) (b := 0) (by omega) (by omega)).mpr c_4)
    refine lv_aload_n hx hb dX0_failed_7 rfl (lv_at hl 0 rfl) ?_
    refine va_get (D := D) (ci := 0) (v := .ref b1) (C := RX0) (T := TX0) (N := 5) hx hb hw iwX0 hown hK.1 hP 0 rfl rfl 1 (by decide) (hw _ xw_79) (fun _ h9 => h9) rfl dX0_failed_8 ?_
    refine lv_aload_n hx hb dX0_failed_11 rfl (lv_at hl 0 rfl) ?_
    refine va_get (D := D) (ci := 0) (v := .int (nI n)) (C := RX0) (T := TX0) (N := 5) hx hb hw iwX0 hown hK.1 hP 0 rfl rfl 4 (by decide) (hw _ xw_77) (fun _ h9 => h9) rfl dX0_failed_12 ?_
    refine lv_iconst (v := nI 1) hx hb dX0_failed_15 (by decide) ?_
    refine lv_isub hx hb dX0_failed_16 ?_
    refine es_top (y := nI (n - 1)) (pk_sub (by omega)) ?_
    refine es_iald hx hb hK.1 hP 2 0 rfl rfl (by omega) (Nat.le_of_ble_eq_true rfl) dX0_failed_17 ?_
    refine lv_if_ne (tgt := 25) hx hb dX0_failed_18 (by decide) (fun c_18 => ?_) (fun c_18 => ?_)
    ·
      refine lv_iconst (v := nI 0) hx hb dX0_failed_25 (by decide) ?_
      exact W.zret (v := nI 0) hx hb hr rfl (fun zt ht hW => ⟨_, rfl, (by show _ = _; first | (rw [if_pos ⟨by omega, c_18⟩]; rfl) | (rw [if_neg (fun h => by omega)]; rfl) | (rw [if_neg (fun h => absurd h.2 c_18)]; rfl)), ht⟩) (fun _ h => by cases h) dX0_failed_26
    ·
      refine lv_iconst (v := nI 1) hx hb dX0_failed_21 (by decide) ?_
      refine lv_goto (tgt := 26) hx hb dX0_failed_22 (by decide) ?_
      exact W.zret (v := nI 1) hx hb hr rfl (fun zt ht hW => ⟨_, rfl, (by show _ = _; first | (rw [if_pos ⟨by omega, c_18⟩]; rfl) | (rw [if_neg (fun h => by omega)]; rfl) | (rw [if_neg (fun h => absurd h.2 c_18)]; rfl)), ht⟩) (fun _ h => by cases h) dX0_failed_26
set_option maxHeartbeats 1000000 in
set_option maxRecDepth 100000 in
/-- X0.tokens  -/
theorem c_X0_tokens (l : Launch) (D : va_G) (cI : ClassId) (f : Nat) (b0 : Nat) (b1 : Nat) (b2 : Nat) (b3 : Nat) (F : Nat → Nat → Int32) (n : Nat) (hn : n ≤ 400) : Met l yX0_tokens (Cond.code yX0_tokens cX0_tokens 1 (some .int) :: es_T) { frames := 1, cells := 0, slots := 0, locals := 20 } (va_Pc [.ref f] (es_R D cI [(f, .inr (0, [.ref b0, .ref b1, .ref b2, .ref b3, .int (nI n)])), (b0, .inl (cI, 400, .inl (F 0))), (b1, .inl (cI, 400, .inl (F 1))), (b2, .inl (cI, 400, .inl (F 2))), (b3, .inl (cI, 400, .inl (F 3)))])) (vp_Si (fun r => r = nI (es_tk F n))) 0 0 (fun _ => False) := by
  refine Met.ofW (cc := cX0_tokens) (maxL := 1) (ret := (some .int)) (by decide) rfl ?_
  intro p e s m args below meth c s₁ B hml hv
  obtain ⟨rfl, hP, hK⟩ := hv
  have hx := B.exec
  have hb := B.bytes
  have hr := B.returns
  have hts := atoms_spec (ws := (Cond.code yX0_tokens cX0_tokens 1 (some .int) :: es_T)) B.pre
  have hw : ∀ w ∈ es_T, w.before _ s = true := fun w h => hts w (List.mem_cons_of_mem _ h)
  have hown : s.vm.findClass RX0 = some m.cls := findClass_of_methodNamed B.named
  have hlocks := B.notSynchronized
  have hRm : 1 ≤ (headSpec (Cond.code yX0_tokens cX0_tokens 1 (some .int) :: es_T) { frames := 1, cells := 0, slots := 0, locals := 20 }).room.frames ∧ 20 ≤ (headSpec (Cond.code yX0_tokens cX0_tokens 1 (some .int) :: es_T) { frames := 1, cells := 0, slots := 0, locals := 20 }).room.locals := ⟨Nat.le_refl _, Nat.le_refl _⟩
  have hRc : 0 ≤ (headSpec (Cond.code yX0_tokens cX0_tokens 1 (some .int) :: es_T) { frames := 1, cells := 0, slots := 0, locals := 20 }).room.cells ∧ 0 ≤ (headSpec (Cond.code yX0_tokens cX0_tokens 1 (some .int) :: es_T) { frames := 1, cells := 0, slots := 0, locals := 20 }).room.slots := ⟨Nat.le_refl _, Nat.le_refl _⟩
  have hl := lv_entry ([.ref f]) (n := 1) (Nat.le_of_ble_eq_true rfl)
  rw [lg_entry_eq]
  generalize (lg_sl ([.ref f]) ++ List.replicate (1 - (lg_sl ([.ref f])).length) Slot.unset).toArray = ls at hl ⊢
  have hl : lv_has ls 1 [(0, .ref f)] := hl
  refine lv_aload_n hx hb dX0_tokens_0 rfl (lv_at hl 0 rfl) ?_
  refine vp_callSi (va_Run.run (va_runV (As := []) (rest := []) ⟨hx, hb, hml, hown, hw⟩ (c_X0_failed l D cI f b0 b1 b2 b3 F n (by first | assumption | omega)) (cwV 0 hw (es_v xw_99 xw_100 xw_101 xw_102 xw_83) rfl rfl rfl kv_X0_failed ⟨Nat.le_trans (Nat.le_of_ble_eq_true rfl) hRm.1, Nat.le_trans (Nat.le_of_ble_eq_true rfl) hRm.2⟩) (es_RV hK (hP.sub (ws' := [(f, .inr (0, [.ref b0, .ref b1, .ref b2, .ref b3, .int (nI n)])), (b0, .inl (cI, 400, .inl (F 0))), (b1, .inl (cI, 400, .inl (F 1))), (b2, .inl (cI, 400, .inl (F 2))), (b3, .inl (cI, 400, .inl (F 3)))]) [0, 1, 2, 3, 4] rfl) rfl rfl) rfl rfl hl.1 rfl (lv_room (Nat.le_of_ble_eq_true rfl)) dX0_tokens_1 ⟨(Nat.zero_le _), (Nat.zero_le _)⟩)) (fun r_1 er_1 => ?_)
  obtain rfl : r_1 = if 0 < n ∧ F 1 (n - 1) = 0 then (1 : Int32) else 0 := er_1
  refine lv_if_eq (tgt := 16) hx hb dX0_tokens_4 (by decide) (fun c_4 => ?_) (fun c_4 => ?_)
  ·
    have c_4 := es_if0 c_4
    refine lv_aload_n hx hb dX0_tokens_16 rfl (lv_at hl 0 rfl) ?_
    refine va_get (D := D) (ci := 0) (v := .int (nI n)) (C := RX0) (T := TX0) (N := 5) hx hb hw iwX0 hown hK.1 hP 0 rfl rfl 4 (by decide) (hw _ xw_77) (fun _ h9 => h9) rfl dX0_tokens_17 ?_
    exact W.iret (v := nI n) hx hb hr (fun zt ht hW => ⟨_, rfl, (by show _ = _; unfold es_tk; first | (rw [if_pos c_4]; done) | (rw [if_neg c_4]; done)), ht⟩) (fun _ h => by cases h) dX0_tokens_20
  ·
    have c_4 := es_if1 c_4
    refine lv_aload_n hx hb dX0_tokens_7 rfl (lv_at hl 0 rfl) ?_
    refine va_get (D := D) (ci := 0) (v := .int (nI n)) (C := RX0) (T := TX0) (N := 5) hx hb hw iwX0 hown hK.1 hP 0 rfl rfl 4 (by decide) (hw _ xw_77) (fun _ h9 => h9) rfl dX0_tokens_8 ?_
    refine lv_iconst (v := nI 1) hx hb dX0_tokens_11 (by decide) ?_
    refine lv_isub hx hb dX0_tokens_12 ?_
    refine es_top (y := nI (n - 1)) (pk_sub (by omega)) ?_
    refine lv_goto (tgt := 20) hx hb dX0_tokens_13 (by decide) ?_
    exact W.iret (v := nI (n - 1)) hx hb hr (fun zt ht hW => ⟨_, rfl, (by show _ = _; unfold es_tk; first | (rw [if_pos c_4]; done) | (rw [if_neg c_4]; done)), ht⟩) (fun _ h => by cases h) dX0_tokens_20
set_option maxHeartbeats 1000000 in
set_option maxRecDepth 100000 in
/-- X0.begin  -/
theorem c_X0_begin (l : Launch) (D : va_G) (cI : ClassId) (f : Nat) (b0 : Nat) (b1 : Nat) (b2 : Nat) (b3 : Nat) (F : Nat → Nat → Int32) (n : Nat) (x : Int32) (hn : n ≤ 400) : Met l yX0_begin (Cond.code yX0_begin cX0_begin 2 (some .int) :: es_T) { frames := 1, cells := 0, slots := 0, locals := 21 } (va_Pc [.ref f, .int x] (es_R D cI [(f, .inr (0, [.ref b0, .ref b1, .ref b2, .ref b3, .int (nI n)])), (b0, .inl (cI, 400, .inl (F 0))), (b1, .inl (cI, 400, .inl (F 1))), (b2, .inl (cI, 400, .inl (F 2))), (b3, .inl (cI, 400, .inl (F 3)))])) (vp_Si (fun r => r = if 0 ≤ x ∧ x < nI n then F 0 x.toNatClampNeg else -1)) 0 0 (fun _ => False) := by
  refine Met.ofW (cc := cX0_begin) (maxL := 2) (ret := (some .int)) (by decide) rfl ?_
  intro p e s m args below meth c s₁ B hml hv
  obtain ⟨rfl, hP, hK⟩ := hv
  have hx := B.exec
  have hb := B.bytes
  have hr := B.returns
  have hts := atoms_spec (ws := (Cond.code yX0_begin cX0_begin 2 (some .int) :: es_T)) B.pre
  have hw : ∀ w ∈ es_T, w.before _ s = true := fun w h => hts w (List.mem_cons_of_mem _ h)
  have hown : s.vm.findClass RX0 = some m.cls := findClass_of_methodNamed B.named
  have hlocks := B.notSynchronized
  have hRm : 1 ≤ (headSpec (Cond.code yX0_begin cX0_begin 2 (some .int) :: es_T) { frames := 1, cells := 0, slots := 0, locals := 21 }).room.frames ∧ 21 ≤ (headSpec (Cond.code yX0_begin cX0_begin 2 (some .int) :: es_T) { frames := 1, cells := 0, slots := 0, locals := 21 }).room.locals := ⟨Nat.le_refl _, Nat.le_refl _⟩
  have hRc : 0 ≤ (headSpec (Cond.code yX0_begin cX0_begin 2 (some .int) :: es_T) { frames := 1, cells := 0, slots := 0, locals := 21 }).room.cells ∧ 0 ≤ (headSpec (Cond.code yX0_begin cX0_begin 2 (some .int) :: es_T) { frames := 1, cells := 0, slots := 0, locals := 21 }).room.slots := ⟨Nat.le_refl _, Nat.le_refl _⟩
  have hl := lv_entry ([.ref f, .int x]) (n := 2) (Nat.le_of_ble_eq_true rfl)
  rw [lg_entry_eq]
  generalize (lg_sl ([.ref f, .int x]) ++ List.replicate (2 - (lg_sl ([.ref f, .int x])).length) Slot.unset).toArray = ls at hl ⊢
  have hl : lv_has ls 2 [(0, .ref f), (1, .int x)] := hl
  refine lv_aload_n hx hb dX0_begin_0 rfl (lv_at hl 0 rfl) ?_
  refine lv_iload_n hx hb dX0_begin_1 rfl (lv_at hl 1 rfl) ?_
  refine vp_callSi (va_Run.run (va_runV (As := [.int x]) (rest := []) ⟨hx, hb, hml, hown, hw⟩ (c_X0_has l D cI f b0 b1 b2 b3 F n x ) (cwV 1 hw (es_v xw_82 xw_84 xw_85 xw_86 xw_83) rfl rfl rfl kv_X0_has ⟨Nat.le_trans (Nat.le_of_ble_eq_true rfl) hRm.1, Nat.le_trans (Nat.le_of_ble_eq_true rfl) hRm.2⟩) (es_RV hK (hP.sub (ws' := [(f, .inr (0, [.ref b0, .ref b1, .ref b2, .ref b3, .int (nI n)])), (b0, .inl (cI, 400, .inl (F 0))), (b1, .inl (cI, 400, .inl (F 1))), (b2, .inl (cI, 400, .inl (F 2))), (b3, .inl (cI, 400, .inl (F 3)))]) [0, 1, 2, 3, 4] rfl) rfl rfl) rfl rfl hl.1 rfl (lv_room (Nat.le_of_ble_eq_true rfl)) dX0_begin_2 ⟨(Nat.zero_le _), (Nat.zero_le _)⟩)) (fun r_1 er_1 => ?_)
  obtain rfl : r_1 = if 0 ≤ x ∧ x < nI n then (1 : Int32) else 0 := er_1
  refine lv_if_eq (tgt := 17) hx hb dX0_begin_5 (by decide) (fun c_5 => ?_) (fun c_5 => ?_)
  ·
    have c_5 := es_if0 c_5
    refine lv_iconst (v := (-1)) hx hb dX0_begin_17 (by decide) ?_
    exact W.iret (v := (-1)) hx hb hr (fun zt ht hW => ⟨_, rfl, (by show _ = _; first | (rw [if_pos c_5]; done) | (rw [if_neg c_5]; done)), ht⟩) (fun _ h => by cases h) dX0_begin_18
  ·
    have c_5 := es_if1 c_5
    refine lv_aload_n hx hb dX0_begin_8 rfl (lv_at hl 0 rfl) ?_
    refine va_get (D := D) (ci := 0) (v := .ref b0) (C := RX0) (T := TX0) (N := 5) hx hb hw iwX0 hown hK.1 hP 0 rfl rfl 0 (by decide) (hw _ xw_78) (fun _ h9 => h9) rfl dX0_begin_9 ?_
    refine lv_iload_n hx hb dX0_begin_12 rfl (lv_at hl 1 rfl) ?_
    refine va_iald hx hb hK.1 hP 1 0 rfl rfl (es_vin c_5 hn (by decide)) dX0_begin_13 ?_
    refine lv_goto (tgt := 18) hx hb dX0_begin_14 (by decide) ?_
    exact W.iret (v := (F 0) (x).toNatClampNeg) hx hb hr (fun zt ht hW => ⟨_, rfl, (by show _ = _; first | (rw [if_pos c_5]; done) | (rw [if_neg c_5]; done)), ht⟩) (fun _ h => by cases h) dX0_begin_18
set_option maxHeartbeats 1000000 in
set_option maxRecDepth 100000 in
/-- X0.length  -/
theorem c_X0_length (l : Launch) (D : va_G) (cI : ClassId) (f : Nat) (b0 : Nat) (b1 : Nat) (b2 : Nat) (b3 : Nat) (F : Nat → Nat → Int32) (n : Nat) (x : Int32) (hn : n ≤ 400) : Met l yX0_length (Cond.code yX0_length cX0_length 2 (some .int) :: es_T) { frames := 1, cells := 0, slots := 0, locals := 21 } (va_Pc [.ref f, .int x] (es_R D cI [(f, .inr (0, [.ref b0, .ref b1, .ref b2, .ref b3, .int (nI n)])), (b0, .inl (cI, 400, .inl (F 0))), (b1, .inl (cI, 400, .inl (F 1))), (b2, .inl (cI, 400, .inl (F 2))), (b3, .inl (cI, 400, .inl (F 3)))])) (vp_Si (fun r => r = if 0 ≤ x ∧ x < nI n then F 1 x.toNatClampNeg else -1)) 0 0 (fun _ => False) := by
  refine Met.ofW (cc := cX0_length) (maxL := 2) (ret := (some .int)) (by decide) rfl ?_
  intro p e s m args below meth c s₁ B hml hv
  obtain ⟨rfl, hP, hK⟩ := hv
  have hx := B.exec
  have hb := B.bytes
  have hr := B.returns
  have hts := atoms_spec (ws := (Cond.code yX0_length cX0_length 2 (some .int) :: es_T)) B.pre
  have hw : ∀ w ∈ es_T, w.before _ s = true := fun w h => hts w (List.mem_cons_of_mem _ h)
  have hown : s.vm.findClass RX0 = some m.cls := findClass_of_methodNamed B.named
  have hlocks := B.notSynchronized
  have hRm : 1 ≤ (headSpec (Cond.code yX0_length cX0_length 2 (some .int) :: es_T) { frames := 1, cells := 0, slots := 0, locals := 21 }).room.frames ∧ 21 ≤ (headSpec (Cond.code yX0_length cX0_length 2 (some .int) :: es_T) { frames := 1, cells := 0, slots := 0, locals := 21 }).room.locals := ⟨Nat.le_refl _, Nat.le_refl _⟩
  have hRc : 0 ≤ (headSpec (Cond.code yX0_length cX0_length 2 (some .int) :: es_T) { frames := 1, cells := 0, slots := 0, locals := 21 }).room.cells ∧ 0 ≤ (headSpec (Cond.code yX0_length cX0_length 2 (some .int) :: es_T) { frames := 1, cells := 0, slots := 0, locals := 21 }).room.slots := ⟨Nat.le_refl _, Nat.le_refl _⟩
  have hl := lv_entry ([.ref f, .int x]) (n := 2) (Nat.le_of_ble_eq_true rfl)
  rw [lg_entry_eq]
  generalize (lg_sl ([.ref f, .int x]) ++ List.replicate (2 - (lg_sl ([.ref f, .int x])).length) Slot.unset).toArray = ls at hl ⊢
  have hl : lv_has ls 2 [(0, .ref f), (1, .int x)] := hl
  refine lv_aload_n hx hb dX0_length_0 rfl (lv_at hl 0 rfl) ?_
  refine lv_iload_n hx hb dX0_length_1 rfl (lv_at hl 1 rfl) ?_
  refine vp_callSi (va_Run.run (va_runV (As := [.int x]) (rest := []) ⟨hx, hb, hml, hown, hw⟩ (c_X0_has l D cI f b0 b1 b2 b3 F n x ) (cwV 1 hw (es_v xw_82 xw_84 xw_85 xw_86 xw_83) rfl rfl rfl kv_X0_has ⟨Nat.le_trans (Nat.le_of_ble_eq_true rfl) hRm.1, Nat.le_trans (Nat.le_of_ble_eq_true rfl) hRm.2⟩) (es_RV hK (hP.sub (ws' := [(f, .inr (0, [.ref b0, .ref b1, .ref b2, .ref b3, .int (nI n)])), (b0, .inl (cI, 400, .inl (F 0))), (b1, .inl (cI, 400, .inl (F 1))), (b2, .inl (cI, 400, .inl (F 2))), (b3, .inl (cI, 400, .inl (F 3)))]) [0, 1, 2, 3, 4] rfl) rfl rfl) rfl rfl hl.1 rfl (lv_room (Nat.le_of_ble_eq_true rfl)) dX0_length_2 ⟨(Nat.zero_le _), (Nat.zero_le _)⟩)) (fun r_1 er_1 => ?_)
  obtain rfl : r_1 = if 0 ≤ x ∧ x < nI n then (1 : Int32) else 0 := er_1
  refine lv_if_eq (tgt := 17) hx hb dX0_length_5 (by decide) (fun c_5 => ?_) (fun c_5 => ?_)
  ·
    have c_5 := es_if0 c_5
    refine lv_iconst (v := (-1)) hx hb dX0_length_17 (by decide) ?_
    exact W.iret (v := (-1)) hx hb hr (fun zt ht hW => ⟨_, rfl, (by show _ = _; first | (rw [if_pos c_5]; done) | (rw [if_neg c_5]; done)), ht⟩) (fun _ h => by cases h) dX0_length_18
  ·
    have c_5 := es_if1 c_5
    refine lv_aload_n hx hb dX0_length_8 rfl (lv_at hl 0 rfl) ?_
    refine va_get (D := D) (ci := 0) (v := .ref b1) (C := RX0) (T := TX0) (N := 5) hx hb hw iwX0 hown hK.1 hP 0 rfl rfl 1 (by decide) (hw _ xw_79) (fun _ h9 => h9) rfl dX0_length_9 ?_
    refine lv_iload_n hx hb dX0_length_12 rfl (lv_at hl 1 rfl) ?_
    refine va_iald hx hb hK.1 hP 2 0 rfl rfl (es_vin c_5 hn (by decide)) dX0_length_13 ?_
    refine lv_goto (tgt := 18) hx hb dX0_length_14 (by decide) ?_
    exact W.iret (v := (F 1) (x).toNatClampNeg) hx hb hr (fun zt ht hW => ⟨_, rfl, (by show _ = _; first | (rw [if_pos c_5]; done) | (rw [if_neg c_5]; done)), ht⟩) (fun _ h => by cases h) dX0_length_18
set_option maxHeartbeats 1000000 in
set_option maxRecDepth 100000 in
/-- X0.kindFound  -/
theorem c_X0_kindFound (l : Launch) (D : va_G) (cI : ClassId) (f : Nat) (b0 : Nat) (b1 : Nat) (b2 : Nat) (b3 : Nat) (F : Nat → Nat → Int32) (n : Nat) (x : Int32) (hn : n ≤ 400) : Met l yX0_kindFound (Cond.code yX0_kindFound cX0_kindFound 2 (some .int) :: es_T) { frames := 1, cells := 0, slots := 0, locals := 21 } (va_Pc [.ref f, .int x] (es_R D cI [(f, .inr (0, [.ref b0, .ref b1, .ref b2, .ref b3, .int (nI n)])), (b0, .inl (cI, 400, .inl (F 0))), (b1, .inl (cI, 400, .inl (F 1))), (b2, .inl (cI, 400, .inl (F 2))), (b3, .inl (cI, 400, .inl (F 3)))])) (vp_Si (fun r => r = if 0 ≤ x ∧ x < nI n then F 2 x.toNatClampNeg else -1)) 0 0 (fun _ => False) := by
  refine Met.ofW (cc := cX0_kindFound) (maxL := 2) (ret := (some .int)) (by decide) rfl ?_
  intro p e s m args below meth c s₁ B hml hv
  obtain ⟨rfl, hP, hK⟩ := hv
  have hx := B.exec
  have hb := B.bytes
  have hr := B.returns
  have hts := atoms_spec (ws := (Cond.code yX0_kindFound cX0_kindFound 2 (some .int) :: es_T)) B.pre
  have hw : ∀ w ∈ es_T, w.before _ s = true := fun w h => hts w (List.mem_cons_of_mem _ h)
  have hown : s.vm.findClass RX0 = some m.cls := findClass_of_methodNamed B.named
  have hlocks := B.notSynchronized
  have hRm : 1 ≤ (headSpec (Cond.code yX0_kindFound cX0_kindFound 2 (some .int) :: es_T) { frames := 1, cells := 0, slots := 0, locals := 21 }).room.frames ∧ 21 ≤ (headSpec (Cond.code yX0_kindFound cX0_kindFound 2 (some .int) :: es_T) { frames := 1, cells := 0, slots := 0, locals := 21 }).room.locals := ⟨Nat.le_refl _, Nat.le_refl _⟩
  have hRc : 0 ≤ (headSpec (Cond.code yX0_kindFound cX0_kindFound 2 (some .int) :: es_T) { frames := 1, cells := 0, slots := 0, locals := 21 }).room.cells ∧ 0 ≤ (headSpec (Cond.code yX0_kindFound cX0_kindFound 2 (some .int) :: es_T) { frames := 1, cells := 0, slots := 0, locals := 21 }).room.slots := ⟨Nat.le_refl _, Nat.le_refl _⟩
  have hl := lv_entry ([.ref f, .int x]) (n := 2) (Nat.le_of_ble_eq_true rfl)
  rw [lg_entry_eq]
  generalize (lg_sl ([.ref f, .int x]) ++ List.replicate (2 - (lg_sl ([.ref f, .int x])).length) Slot.unset).toArray = ls at hl ⊢
  have hl : lv_has ls 2 [(0, .ref f), (1, .int x)] := hl
  refine lv_aload_n hx hb dX0_kindFound_0 rfl (lv_at hl 0 rfl) ?_
  refine lv_iload_n hx hb dX0_kindFound_1 rfl (lv_at hl 1 rfl) ?_
  refine vp_callSi (va_Run.run (va_runV (As := [.int x]) (rest := []) ⟨hx, hb, hml, hown, hw⟩ (c_X0_has l D cI f b0 b1 b2 b3 F n x ) (cwV 1 hw (es_v xw_82 xw_84 xw_85 xw_86 xw_83) rfl rfl rfl kv_X0_has ⟨Nat.le_trans (Nat.le_of_ble_eq_true rfl) hRm.1, Nat.le_trans (Nat.le_of_ble_eq_true rfl) hRm.2⟩) (es_RV hK (hP.sub (ws' := [(f, .inr (0, [.ref b0, .ref b1, .ref b2, .ref b3, .int (nI n)])), (b0, .inl (cI, 400, .inl (F 0))), (b1, .inl (cI, 400, .inl (F 1))), (b2, .inl (cI, 400, .inl (F 2))), (b3, .inl (cI, 400, .inl (F 3)))]) [0, 1, 2, 3, 4] rfl) rfl rfl) rfl rfl hl.1 rfl (lv_room (Nat.le_of_ble_eq_true rfl)) dX0_kindFound_2 ⟨(Nat.zero_le _), (Nat.zero_le _)⟩)) (fun r_1 er_1 => ?_)
  obtain rfl : r_1 = if 0 ≤ x ∧ x < nI n then (1 : Int32) else 0 := er_1
  refine lv_if_eq (tgt := 17) hx hb dX0_kindFound_5 (by decide) (fun c_5 => ?_) (fun c_5 => ?_)
  ·
    have c_5 := es_if0 c_5
    refine lv_iconst (v := (-1)) hx hb dX0_kindFound_17 (by decide) ?_
    exact W.iret (v := (-1)) hx hb hr (fun zt ht hW => ⟨_, rfl, (by show _ = _; first | (rw [if_pos c_5]; done) | (rw [if_neg c_5]; done)), ht⟩) (fun _ h => by cases h) dX0_kindFound_18
  ·
    have c_5 := es_if1 c_5
    refine lv_aload_n hx hb dX0_kindFound_8 rfl (lv_at hl 0 rfl) ?_
    refine va_get (D := D) (ci := 0) (v := .ref b2) (C := RX0) (T := TX0) (N := 5) hx hb hw iwX0 hown hK.1 hP 0 rfl rfl 2 (by decide) (hw _ xw_80) (fun _ h9 => h9) rfl dX0_kindFound_9 ?_
    refine lv_iload_n hx hb dX0_kindFound_12 rfl (lv_at hl 1 rfl) ?_
    refine va_iald hx hb hK.1 hP 3 0 rfl rfl (es_vin c_5 hn (by decide)) dX0_kindFound_13 ?_
    refine lv_goto (tgt := 18) hx hb dX0_kindFound_14 (by decide) ?_
    exact W.iret (v := (F 2) (x).toNatClampNeg) hx hb hr (fun zt ht hW => ⟨_, rfl, (by show _ = _; first | (rw [if_pos c_5]; done) | (rw [if_neg c_5]; done)), ht⟩) (fun _ h => by cases h) dX0_kindFound_18
set_option maxHeartbeats 1000000 in
set_option maxRecDepth 100000 in
/-- X0.looked  -/
theorem c_X0_looked (l : Launch) (D : va_G) (cI : ClassId) (f : Nat) (b0 : Nat) (b1 : Nat) (b2 : Nat) (b3 : Nat) (F : Nat → Nat → Int32) (n : Nat) (x : Int32) (hn : n ≤ 400) : Met l yX0_looked (Cond.code yX0_looked cX0_looked 2 (some .int) :: es_T) { frames := 1, cells := 0, slots := 0, locals := 21 } (va_Pc [.ref f, .int x] (es_R D cI [(f, .inr (0, [.ref b0, .ref b1, .ref b2, .ref b3, .int (nI n)])), (b0, .inl (cI, 400, .inl (F 0))), (b1, .inl (cI, 400, .inl (F 1))), (b2, .inl (cI, 400, .inl (F 2))), (b3, .inl (cI, 400, .inl (F 3)))])) (vp_Si (fun r => r = if 0 ≤ x ∧ x < nI n then F 3 x.toNatClampNeg else -1)) 0 0 (fun _ => False) := by
  refine Met.ofW (cc := cX0_looked) (maxL := 2) (ret := (some .int)) (by decide) rfl ?_
  intro p e s m args below meth c s₁ B hml hv
  obtain ⟨rfl, hP, hK⟩ := hv
  have hx := B.exec
  have hb := B.bytes
  have hr := B.returns
  have hts := atoms_spec (ws := (Cond.code yX0_looked cX0_looked 2 (some .int) :: es_T)) B.pre
  have hw : ∀ w ∈ es_T, w.before _ s = true := fun w h => hts w (List.mem_cons_of_mem _ h)
  have hown : s.vm.findClass RX0 = some m.cls := findClass_of_methodNamed B.named
  have hlocks := B.notSynchronized
  have hRm : 1 ≤ (headSpec (Cond.code yX0_looked cX0_looked 2 (some .int) :: es_T) { frames := 1, cells := 0, slots := 0, locals := 21 }).room.frames ∧ 21 ≤ (headSpec (Cond.code yX0_looked cX0_looked 2 (some .int) :: es_T) { frames := 1, cells := 0, slots := 0, locals := 21 }).room.locals := ⟨Nat.le_refl _, Nat.le_refl _⟩
  have hRc : 0 ≤ (headSpec (Cond.code yX0_looked cX0_looked 2 (some .int) :: es_T) { frames := 1, cells := 0, slots := 0, locals := 21 }).room.cells ∧ 0 ≤ (headSpec (Cond.code yX0_looked cX0_looked 2 (some .int) :: es_T) { frames := 1, cells := 0, slots := 0, locals := 21 }).room.slots := ⟨Nat.le_refl _, Nat.le_refl _⟩
  have hl := lv_entry ([.ref f, .int x]) (n := 2) (Nat.le_of_ble_eq_true rfl)
  rw [lg_entry_eq]
  generalize (lg_sl ([.ref f, .int x]) ++ List.replicate (2 - (lg_sl ([.ref f, .int x])).length) Slot.unset).toArray = ls at hl ⊢
  have hl : lv_has ls 2 [(0, .ref f), (1, .int x)] := hl
  refine lv_aload_n hx hb dX0_looked_0 rfl (lv_at hl 0 rfl) ?_
  refine lv_iload_n hx hb dX0_looked_1 rfl (lv_at hl 1 rfl) ?_
  refine vp_callSi (va_Run.run (va_runV (As := [.int x]) (rest := []) ⟨hx, hb, hml, hown, hw⟩ (c_X0_has l D cI f b0 b1 b2 b3 F n x ) (cwV 1 hw (es_v xw_82 xw_84 xw_85 xw_86 xw_83) rfl rfl rfl kv_X0_has ⟨Nat.le_trans (Nat.le_of_ble_eq_true rfl) hRm.1, Nat.le_trans (Nat.le_of_ble_eq_true rfl) hRm.2⟩) (es_RV hK (hP.sub (ws' := [(f, .inr (0, [.ref b0, .ref b1, .ref b2, .ref b3, .int (nI n)])), (b0, .inl (cI, 400, .inl (F 0))), (b1, .inl (cI, 400, .inl (F 1))), (b2, .inl (cI, 400, .inl (F 2))), (b3, .inl (cI, 400, .inl (F 3)))]) [0, 1, 2, 3, 4] rfl) rfl rfl) rfl rfl hl.1 rfl (lv_room (Nat.le_of_ble_eq_true rfl)) dX0_looked_2 ⟨(Nat.zero_le _), (Nat.zero_le _)⟩)) (fun r_1 er_1 => ?_)
  obtain rfl : r_1 = if 0 ≤ x ∧ x < nI n then (1 : Int32) else 0 := er_1
  refine lv_if_eq (tgt := 17) hx hb dX0_looked_5 (by decide) (fun c_5 => ?_) (fun c_5 => ?_)
  ·
    have c_5 := es_if0 c_5
    refine lv_iconst (v := (-1)) hx hb dX0_looked_17 (by decide) ?_
    exact W.iret (v := (-1)) hx hb hr (fun zt ht hW => ⟨_, rfl, (by show _ = _; first | (rw [if_pos c_5]; done) | (rw [if_neg c_5]; done)), ht⟩) (fun _ h => by cases h) dX0_looked_18
  ·
    have c_5 := es_if1 c_5
    refine lv_aload_n hx hb dX0_looked_8 rfl (lv_at hl 0 rfl) ?_
    refine va_get (D := D) (ci := 0) (v := .ref b3) (C := RX0) (T := TX0) (N := 5) hx hb hw iwX0 hown hK.1 hP 0 rfl rfl 3 (by decide) (hw _ xw_81) (fun _ h9 => h9) rfl dX0_looked_9 ?_
    refine lv_iload_n hx hb dX0_looked_12 rfl (lv_at hl 1 rfl) ?_
    refine va_iald hx hb hK.1 hP 4 0 rfl rfl (es_vin c_5 hn (by decide)) dX0_looked_13 ?_
    refine lv_goto (tgt := 18) hx hb dX0_looked_14 (by decide) ?_
    exact W.iret (v := (F 3) (x).toNatClampNeg) hx hb hr (fun zt ht hW => ⟨_, rfl, (by show _ = _; first | (rw [if_pos c_5]; done) | (rw [if_neg c_5]; done)), ht⟩) (fun _ h => by cases h) dX0_looked_18
set_option maxHeartbeats 1000000 in
set_option maxRecDepth 100000 in
/-- X0.nextBegin  -/
theorem c_X0_nextBegin (l : Launch) (D : va_G) (cI : ClassId) (f : Nat) (b0 : Nat) (b1 : Nat) (b2 : Nat) (b3 : Nat) (F : Nat → Nat → Int32) (n : Nat) (hn : n ≤ 400) : Met l yX0_nextBegin (Cond.code yX0_nextBegin cX0_nextBegin 1 (some .int) :: es_T) { frames := 0, cells := 0, slots := 0, locals := 0 } (va_Pc [.ref f] (es_R D cI [(f, .inr (0, [.ref b0, .ref b1, .ref b2, .ref b3, .int (nI n)])), (b0, .inl (cI, 400, .inl (F 0))), (b1, .inl (cI, 400, .inl (F 1))), (b2, .inl (cI, 400, .inl (F 2))), (b3, .inl (cI, 400, .inl (F 3)))])) (vp_Si (fun r => r = if 0 < n then F 0 (n - 1) + F 1 (n - 1) else 0)) 0 0 (fun _ => False) := by
  refine Met.ofW (cc := cX0_nextBegin) (maxL := 1) (ret := (some .int)) (by decide) rfl ?_
  intro p e s m args below meth c s₁ B hml hv
  obtain ⟨rfl, hP, hK⟩ := hv
  have hx := B.exec
  have hb := B.bytes
  have hr := B.returns
  have hts := atoms_spec (ws := (Cond.code yX0_nextBegin cX0_nextBegin 1 (some .int) :: es_T)) B.pre
  have hw : ∀ w ∈ es_T, w.before _ s = true := fun w h => hts w (List.mem_cons_of_mem _ h)
  have hown : s.vm.findClass RX0 = some m.cls := findClass_of_methodNamed B.named
  have hlocks := B.notSynchronized
  have hRm : 0 ≤ (headSpec (Cond.code yX0_nextBegin cX0_nextBegin 1 (some .int) :: es_T) { frames := 0, cells := 0, slots := 0, locals := 0 }).room.frames ∧ 0 ≤ (headSpec (Cond.code yX0_nextBegin cX0_nextBegin 1 (some .int) :: es_T) { frames := 0, cells := 0, slots := 0, locals := 0 }).room.locals := ⟨Nat.le_refl _, Nat.le_refl _⟩
  have hRc : 0 ≤ (headSpec (Cond.code yX0_nextBegin cX0_nextBegin 1 (some .int) :: es_T) { frames := 0, cells := 0, slots := 0, locals := 0 }).room.cells ∧ 0 ≤ (headSpec (Cond.code yX0_nextBegin cX0_nextBegin 1 (some .int) :: es_T) { frames := 0, cells := 0, slots := 0, locals := 0 }).room.slots := ⟨Nat.le_refl _, Nat.le_refl _⟩
  have hl := lv_entry ([.ref f]) (n := 1) (Nat.le_of_ble_eq_true rfl)
  rw [lg_entry_eq]
  generalize (lg_sl ([.ref f]) ++ List.replicate (1 - (lg_sl ([.ref f])).length) Slot.unset).toArray = ls at hl ⊢
  have hl : lv_has ls 1 [(0, .ref f)] := hl
  refine lv_aload_n hx hb dX0_nextBegin_0 rfl (lv_at hl 0 rfl) ?_
  refine va_get (D := D) (ci := 0) (v := .int (nI n)) (C := RX0) (T := TX0) (N := 5) hx hb hw iwX0 hown hK.1 hP 0 rfl rfl 4 (by decide) (hw _ xw_77) (fun _ h9 => h9) rfl dX0_nextBegin_1 ?_
  refine lv_if_le (tgt := 33) hx hb dX0_nextBegin_4 (by decide) (fun c_4 => ?_) (fun c_4 => ?_)
  ·
    have c_4 := (nI_leI (a := n) (b := 0) (by omega) (by omega)).mp c_4
    refine lv_iconst (v := nI 0) hx hb dX0_nextBegin_33 (by decide) ?_
    exact W.iret (v := nI 0) hx hb hr (fun zt ht hW => ⟨_, rfl, (by show _ = _; first | (rw [if_pos (by omega)]; done) | (rw [if_neg (by omega)]; rfl)), ht⟩) (fun _ h => by cases h) dX0_nextBegin_34
  ·
    have c_4 := (mt (nI_leI (a := n) (b := 0) (by omega) (by omega)).mpr c_4)
    refine lv_aload_n hx hb dX0_nextBegin_7 rfl (lv_at hl 0 rfl) ?_
    refine va_get (D := D) (ci := 0) (v := .ref b0) (C := RX0) (T := TX0) (N := 5) hx hb hw iwX0 hown hK.1 hP 0 rfl rfl 0 (by decide) (hw _ xw_78) (fun _ h9 => h9) rfl dX0_nextBegin_8 ?_
    refine lv_aload_n hx hb dX0_nextBegin_11 rfl (lv_at hl 0 rfl) ?_
    refine va_get (D := D) (ci := 0) (v := .int (nI n)) (C := RX0) (T := TX0) (N := 5) hx hb hw iwX0 hown hK.1 hP 0 rfl rfl 4 (by decide) (hw _ xw_77) (fun _ h9 => h9) rfl dX0_nextBegin_12 ?_
    refine lv_iconst (v := nI 1) hx hb dX0_nextBegin_15 (by decide) ?_
    refine lv_isub hx hb dX0_nextBegin_16 ?_
    refine es_top (y := nI (n - 1)) (pk_sub (by omega)) ?_
    refine es_iald hx hb hK.1 hP 1 0 rfl rfl (by omega) (Nat.le_of_ble_eq_true rfl) dX0_nextBegin_17 ?_
    refine lv_aload_n hx hb dX0_nextBegin_18 rfl (lv_at hl 0 rfl) ?_
    refine va_get (D := D) (ci := 0) (v := .ref b1) (C := RX0) (T := TX0) (N := 5) hx hb hw iwX0 hown hK.1 hP 0 rfl rfl 1 (by decide) (hw _ xw_79) (fun _ h9 => h9) rfl dX0_nextBegin_19 ?_
    refine lv_aload_n hx hb dX0_nextBegin_22 rfl (lv_at hl 0 rfl) ?_
    refine va_get (D := D) (ci := 0) (v := .int (nI n)) (C := RX0) (T := TX0) (N := 5) hx hb hw iwX0 hown hK.1 hP 0 rfl rfl 4 (by decide) (hw _ xw_77) (fun _ h9 => h9) rfl dX0_nextBegin_23 ?_
    refine lv_iconst (v := nI 1) hx hb dX0_nextBegin_26 (by decide) ?_
    refine lv_isub hx hb dX0_nextBegin_27 ?_
    refine es_top (y := nI (n - 1)) (pk_sub (by omega)) ?_
    refine es_iald hx hb hK.1 hP 2 0 rfl rfl (by omega) (Nat.le_of_ble_eq_true rfl) dX0_nextBegin_28 ?_
    refine lv_iadd hx hb dX0_nextBegin_29 ?_
    refine lv_goto (tgt := 34) hx hb dX0_nextBegin_30 (by decide) ?_
    exact W.iret (v := ((F 0) (n - 1)) + ((F 1) (n - 1))) hx hb hr (fun zt ht hW => ⟨_, rfl, (by show _ = _; first | (rw [if_pos (by omega)]; done) | (rw [if_neg (by omega)]; rfl)), ht⟩) (fun _ h => by cases h) dX0_nextBegin_34
set_option maxHeartbeats 1000000 in
set_option maxRecDepth 100000 in
theorem lp_tokenAround {p : Program} {l : Launch} {e : Env} {R : Room} {s : State} {m : MethodId} {args : Array Value} {below : List Frame} {meth : Method} {c : Code} {Q : State → Prop} {H : Heap} {locs : List Loc} (D : va_G) (cI : ClassId) (f : Nat) (b0 : Nat) (b1 : Nat) (b2 : Nat) (b3 : Nat) (F : Nat → Nat → Int32) (n : Nat) (x : Int32) (hx : p.tables.exec = Jvm.exec) (hb : c.code = cX0_tokenAround) (hml : c.maxLocals = 3) (hown : s.vm.findClass RX0 = some m.cls) (hw : ∀ w ∈ es_T, w.before args s = true) (hK : es_K D cI s) (hRm : 0 ≤ R.frames ∧ 0 ≤ R.locals) (hP : va_P D vwCl [(f, .inr (0, [.ref b0, .ref b1, .ref b2, .ref b3, .int (nI n)])), (b0, .inl (cI, 400, .inl (F 0))), (b1, .inl (cI, 400, .inl (F 1))), (b2, .inl (cI, 400, .inl (F 2))), (b3, .inl (cI, 400, .inl (F 3)))] H) (hn : n ≤ 400) (hx1 : ∀ (i : Nat), (i < n) → (∀ j, j < i → ¬ (F 0 j ≤ x ∧ x < F 0 j + F 1 j)) → (F 0 i ≤ x ∧ x < F 0 i + F 1 i) → ∀ (ls : Array Slot), lv_has ls 3 [(0, .ref f)] →  W p l e R s m args below meth c H locs 0 0 Q (F0 m 38 ls [.int (nI i)])) (hx2 : ∀ (_ : Unit), (∀ j, j < n → ¬ (F 0 j ≤ x ∧ x < F 0 j + F 1 j)) → ∀ (ls : Array Slot), lv_has ls 3 [(0, .ref f)] →  W p l e R s m args below meth c H locs 0 0 Q (F0 m 45 ls [])) : ∀ (N : Nat) (i : Nat), (i ≤ n) → (∀ j, j < i → ¬ (F 0 j ≤ x ∧ x < F 0 j + F 1 j)) → (n - i) < N → ∀ (ls : Array Slot), lv_has ls 3 [(0, .ref f), (1, .int x), (2, .int (nI i))] →  W p l e R s m args below meth c H locs 0 0 Q (F0 m 2 ls []) := by
  intro N
  induction N with
  | zero =>
    intro i hi hj hN
    exact absurd hN (Nat.not_lt_zero _)
  | succ N ih =>
    intro i hi hj hN ls hl
    refine lv_iload_n hx hb dX0_tokenAround_2 rfl (lv_at hl 2 rfl) ?_
    refine lv_aload_n hx hb dX0_tokenAround_3 rfl (lv_at hl 0 rfl) ?_
    refine va_get (D := D) (ci := 0) (v := .int (nI n)) (C := RX0) (T := TX0) (N := 5) hx hb hw iwX0 hown hK.1 hP 0 rfl rfl 4 (by decide) (hw _ xw_77) (fun _ h9 => h9) rfl dX0_tokenAround_4 ?_
    refine lv_icmp_ge (tgt := 45) hx hb dX0_tokenAround_7 (by decide) (fun c_7 => ?_) (fun c_7 => ?_)
    ·
      have c_7 := (nI_leI (by omega) (by omega)).mp c_7
      exact hx2 () (fun j h => hj j (by omega))  ls (lv_sub hl [0] rfl)
    ·
      have c_7 := (mt (nI_leI (by omega) (by omega)).mpr c_7)
      refine lv_iload_n hx hb dX0_tokenAround_10 rfl (lv_at hl 1 rfl) ?_
      refine lv_aload_n hx hb dX0_tokenAround_11 rfl (lv_at hl 0 rfl) ?_
      refine va_get (D := D) (ci := 0) (v := .ref b0) (C := RX0) (T := TX0) (N := 5) hx hb hw iwX0 hown hK.1 hP 0 rfl rfl 0 (by decide) (hw _ xw_78) (fun _ h9 => h9) rfl dX0_tokenAround_12 ?_
      refine lv_iload_n hx hb dX0_tokenAround_15 rfl (lv_at hl 2 rfl) ?_
      refine es_iald hx hb hK.1 hP 1 0 rfl rfl (by omega) (Nat.le_of_ble_eq_true rfl) dX0_tokenAround_16 ?_
      refine lv_icmp_lt (tgt := 39) hx hb dX0_tokenAround_17 (by decide) (fun c_17 => ?_) (fun c_17 => ?_)
      ·
        refine lv_iinc (v := nI (i + 1)) (lv' := [(2, .int (nI (i + 1))), (0, .ref f), (1, .int x)]) hx hb dX0_tokenAround_39 hl (k := 2) rfl (nI_1 _) (by decide) rfl (fun ls hl => ?_)
        refine lv_goto (tgt := 2) hx hb dX0_tokenAround_42 (by decide) ?_
        exact ih (i + 1) (by first | assumption | omega) (lt_s hj (fun h => by first | exact absurd c_17 (Int32.not_lt.mpr h.1) | exact absurd h.2 (Int32.not_lt.mpr c_34))) (by omega) ls (lv_sub hl [1, 2, 0] rfl)
      ·
        refine lv_iload_n hx hb dX0_tokenAround_20 rfl (lv_at hl 1 rfl) ?_
        refine lv_aload_n hx hb dX0_tokenAround_21 rfl (lv_at hl 0 rfl) ?_
        refine va_get (D := D) (ci := 0) (v := .ref b0) (C := RX0) (T := TX0) (N := 5) hx hb hw iwX0 hown hK.1 hP 0 rfl rfl 0 (by decide) (hw _ xw_78) (fun _ h9 => h9) rfl dX0_tokenAround_22 ?_
        refine lv_iload_n hx hb dX0_tokenAround_25 rfl (lv_at hl 2 rfl) ?_
        refine es_iald hx hb hK.1 hP 1 0 rfl rfl (by omega) (Nat.le_of_ble_eq_true rfl) dX0_tokenAround_26 ?_
        refine lv_aload_n hx hb dX0_tokenAround_27 rfl (lv_at hl 0 rfl) ?_
        refine va_get (D := D) (ci := 0) (v := .ref b1) (C := RX0) (T := TX0) (N := 5) hx hb hw iwX0 hown hK.1 hP 0 rfl rfl 1 (by decide) (hw _ xw_79) (fun _ h9 => h9) rfl dX0_tokenAround_28 ?_
        refine lv_iload_n hx hb dX0_tokenAround_31 rfl (lv_at hl 2 rfl) ?_
        refine es_iald hx hb hK.1 hP 2 0 rfl rfl (by omega) (Nat.le_of_ble_eq_true rfl) dX0_tokenAround_32 ?_
        refine lv_iadd hx hb dX0_tokenAround_33 ?_
        refine lv_icmp_ge (tgt := 39) hx hb dX0_tokenAround_34 (by decide) (fun c_34 => ?_) (fun c_34 => ?_)
        ·
          refine lv_iinc (v := nI (i + 1)) (lv' := [(2, .int (nI (i + 1))), (0, .ref f), (1, .int x)]) hx hb dX0_tokenAround_39 hl (k := 2) rfl (nI_1 _) (by decide) rfl (fun ls hl => ?_)
          refine lv_goto (tgt := 2) hx hb dX0_tokenAround_42 (by decide) ?_
          exact ih (i + 1) (by first | assumption | omega) (lt_s hj (fun h => by first | exact absurd c_17 (Int32.not_lt.mpr h.1) | exact absurd h.2 (Int32.not_lt.mpr c_34))) (by omega) ls (lv_sub hl [1, 2, 0] rfl)
        ·
          refine lv_iload_n hx hb dX0_tokenAround_37 rfl (lv_at hl 2 rfl) ?_
          exact hx1 i (by first | assumption | omega) (by first | assumption | omega) ⟨Int32.not_lt.mp c_17, Int32.not_le.mp c_34⟩  ls (lv_sub hl [0] rfl)
set_option maxHeartbeats 1000000 in
set_option maxRecDepth 100000 in
/-- X0.tokenAround  -/
theorem c_X0_tokenAround (l : Launch) (D : va_G) (cI : ClassId) (f : Nat) (b0 : Nat) (b1 : Nat) (b2 : Nat) (b3 : Nat) (F : Nat → Nat → Int32) (n : Nat) (x : Int32) (hn : n ≤ 400) : Met l yX0_tokenAround (Cond.code yX0_tokenAround cX0_tokenAround 3 (some .int) :: es_T) { frames := 0, cells := 0, slots := 0, locals := 0 } (va_Pc [.ref f, .int x] (es_R D cI [(f, .inr (0, [.ref b0, .ref b1, .ref b2, .ref b3, .int (nI n)])), (b0, .inl (cI, 400, .inl (F 0))), (b1, .inl (cI, 400, .inl (F 1))), (b2, .inl (cI, 400, .inl (F 2))), (b3, .inl (cI, 400, .inl (F 3)))])) (vp_Si (fun r => ∃ i : Nat, i ≤ n ∧ (∀ j, j < i → ¬ (F 0 j ≤ x ∧ x < F 0 j + F 1 j)) ∧ ((i = n ∧ r = -1) ∨ (i < n ∧ (F 0 i ≤ x ∧ x < F 0 i + F 1 i) ∧ r = nI i)))) 0 0 (fun _ => False) := by
  refine Met.ofW (cc := cX0_tokenAround) (maxL := 3) (ret := (some .int)) (by decide) rfl ?_
  intro p e s m args below meth c s₁ B hml hv
  obtain ⟨rfl, hP, hK⟩ := hv
  have hx := B.exec
  have hb := B.bytes
  have hr := B.returns
  have hts := atoms_spec (ws := (Cond.code yX0_tokenAround cX0_tokenAround 3 (some .int) :: es_T)) B.pre
  have hw : ∀ w ∈ es_T, w.before _ s = true := fun w h => hts w (List.mem_cons_of_mem _ h)
  have hown : s.vm.findClass RX0 = some m.cls := findClass_of_methodNamed B.named
  have hlocks := B.notSynchronized
  have hRm : 0 ≤ (headSpec (Cond.code yX0_tokenAround cX0_tokenAround 3 (some .int) :: es_T) { frames := 0, cells := 0, slots := 0, locals := 0 }).room.frames ∧ 0 ≤ (headSpec (Cond.code yX0_tokenAround cX0_tokenAround 3 (some .int) :: es_T) { frames := 0, cells := 0, slots := 0, locals := 0 }).room.locals := ⟨Nat.le_refl _, Nat.le_refl _⟩
  have hRc : 0 ≤ (headSpec (Cond.code yX0_tokenAround cX0_tokenAround 3 (some .int) :: es_T) { frames := 0, cells := 0, slots := 0, locals := 0 }).room.cells ∧ 0 ≤ (headSpec (Cond.code yX0_tokenAround cX0_tokenAround 3 (some .int) :: es_T) { frames := 0, cells := 0, slots := 0, locals := 0 }).room.slots := ⟨Nat.le_refl _, Nat.le_refl _⟩
  have hl := lv_entry ([.ref f, .int x]) (n := 3) (Nat.le_of_ble_eq_true rfl)
  rw [lg_entry_eq]
  generalize (lg_sl ([.ref f, .int x]) ++ List.replicate (3 - (lg_sl ([.ref f, .int x])).length) Slot.unset).toArray = ls at hl ⊢
  have hl : lv_has ls 3 [(0, .ref f), (1, .int x)] := hl
  refine lv_iconst (v := nI 0) hx hb dX0_tokenAround_0 (by decide) ?_
  refine lv_istore_n (lv' := [(2, .int (nI 0)), (0, .ref f), (1, .int x)]) hx hb dX0_tokenAround_1 rfl hl (by decide) rfl (fun ls hl => ?_)
  refine lp_tokenAround D cI f b0 b1 b2 b3 F n x hx hb hml hown hw hK ⟨Nat.le_trans (Nat.le_of_ble_eq_true rfl) hRm.1, Nat.le_trans (Nat.le_of_ble_eq_true rfl) hRm.2⟩ hP (by first | assumption | omega) (fun i hi hj hc ls hl => ?_) (fun _ hj ls hl => ?_) ((n - 0) + 1) 0 (by first | assumption | omega) (fun j h => absurd h (Nat.not_lt_zero _)) (Nat.lt_succ_self _) ls (lv_sub hl [1, 2, 0] rfl)
  ·
    exact W.iret (v := nI i) hx hb hr (fun zt ht hW => ⟨_, rfl, ⟨i, Nat.le_of_lt hi, hj, Or.inr ⟨hi, hc, rfl⟩⟩, ht⟩) (fun _ h => by cases h) dX0_tokenAround_38
  ·
    refine lv_iconst (v := (-1)) hx hb dX0_tokenAround_45 (by decide) ?_
    exact W.iret (v := (-1)) hx hb hr (fun zt ht hW => ⟨_, rfl, ⟨n, Nat.le_refl n, hj, Or.inl ⟨rfl, rfl⟩⟩, ht⟩) (fun _ h => by cases h) dX0_tokenAround_46
set_option maxHeartbeats 1000000 in
set_option maxRecDepth 100000 in
theorem lp_firstThat {p : Program} {l : Launch} {e : Env} {R : Room} {s : State} {m : MethodId} {args : Array Value} {below : List Frame} {meth : Method} {c : Code} {Q : State → Prop} {H : Heap} {locs : List Loc} (D : va_G) (cI : ClassId) (f : Nat) (b0 : Nat) (b1 : Nat) (b2 : Nat) (b3 : Nat) (F : Nat → Nat → Int32) (n : Nat) (x : Int32) (hx : p.tables.exec = Jvm.exec) (hb : c.code = cX0_firstThatLookedAt) (hml : c.maxLocals = 3) (hown : s.vm.findClass RX0 = some m.cls) (hw : ∀ w ∈ es_T, w.before args s = true) (hK : es_K D cI s) (hRm : 0 ≤ R.frames ∧ 0 ≤ R.locals) (hP : va_P D vwCl [(f, .inr (0, [.ref b0, .ref b1, .ref b2, .ref b3, .int (nI n)])), (b0, .inl (cI, 400, .inl (F 0))), (b1, .inl (cI, 400, .inl (F 1))), (b2, .inl (cI, 400, .inl (F 2))), (b3, .inl (cI, 400, .inl (F 3)))] H) (hn : n ≤ 400) (hx1 : ∀ (i : Nat), (i < n) → (∀ j, j < i → ¬ x < F 0 j + F 3 j) → (x < F 0 i + F 3 i) → ∀ (ls : Array Slot), lv_has ls 3 [(0, .ref f)] →  W p l e R s m args below meth c H locs 0 0 Q (F0 m 28 ls [.int (nI i)])) (hx2 : ∀ (_ : Unit), (∀ j, j < n → ¬ x < F 0 j + F 3 j) → ∀ (ls : Array Slot), lv_has ls 3 [(0, .ref f)] →  W p l e R s m args below meth c H locs 0 0 Q (F0 m 35 ls [])) : ∀ (N : Nat) (i : Nat), (i ≤ n) → (∀ j, j < i → ¬ x < F 0 j + F 3 j) → (n - i) < N → ∀ (ls : Array Slot), lv_has ls 3 [(0, .ref f), (1, .int x), (2, .int (nI i))] →  W p l e R s m args below meth c H locs 0 0 Q (F0 m 2 ls []) := by
  intro N
  induction N with
  | zero =>
    intro i hi hj hN
    exact absurd hN (Nat.not_lt_zero _)
  | succ N ih =>
    intro i hi hj hN ls hl
    refine lv_iload_n hx hb dX0_firstThatLookedAt_2 rfl (lv_at hl 2 rfl) ?_
    refine lv_aload_n hx hb dX0_firstThatLookedAt_3 rfl (lv_at hl 0 rfl) ?_
    refine va_get (D := D) (ci := 0) (v := .int (nI n)) (C := RX0) (T := TX0) (N := 5) hx hb hw iwX0 hown hK.1 hP 0 rfl rfl 4 (by decide) (hw _ xw_77) (fun _ h9 => h9) rfl dX0_firstThatLookedAt_4 ?_
    refine lv_icmp_ge (tgt := 35) hx hb dX0_firstThatLookedAt_7 (by decide) (fun c_7 => ?_) (fun c_7 => ?_)
    ·
      have c_7 := (nI_leI (by omega) (by omega)).mp c_7
      exact hx2 () (fun j h => hj j (by omega))  ls (lv_sub hl [0] rfl)
    ·
      have c_7 := (mt (nI_leI (by omega) (by omega)).mpr c_7)
      refine lv_aload_n hx hb dX0_firstThatLookedAt_10 rfl (lv_at hl 0 rfl) ?_
      refine va_get (D := D) (ci := 0) (v := .ref b0) (C := RX0) (T := TX0) (N := 5) hx hb hw iwX0 hown hK.1 hP 0 rfl rfl 0 (by decide) (hw _ xw_78) (fun _ h9 => h9) rfl dX0_firstThatLookedAt_11 ?_
      refine lv_iload_n hx hb dX0_firstThatLookedAt_14 rfl (lv_at hl 2 rfl) ?_
      refine es_iald hx hb hK.1 hP 1 0 rfl rfl (by omega) (Nat.le_of_ble_eq_true rfl) dX0_firstThatLookedAt_15 ?_
      refine lv_aload_n hx hb dX0_firstThatLookedAt_16 rfl (lv_at hl 0 rfl) ?_
      refine va_get (D := D) (ci := 0) (v := .ref b3) (C := RX0) (T := TX0) (N := 5) hx hb hw iwX0 hown hK.1 hP 0 rfl rfl 3 (by decide) (hw _ xw_81) (fun _ h9 => h9) rfl dX0_firstThatLookedAt_17 ?_
      refine lv_iload_n hx hb dX0_firstThatLookedAt_20 rfl (lv_at hl 2 rfl) ?_
      refine es_iald hx hb hK.1 hP 4 0 rfl rfl (by omega) (Nat.le_of_ble_eq_true rfl) dX0_firstThatLookedAt_21 ?_
      refine lv_iadd hx hb dX0_firstThatLookedAt_22 ?_
      refine lv_iload_n hx hb dX0_firstThatLookedAt_23 rfl (lv_at hl 1 rfl) ?_
      refine lv_icmp_le (tgt := 29) hx hb dX0_firstThatLookedAt_24 (by decide) (fun c_24 => ?_) (fun c_24 => ?_)
      ·
        refine lv_iinc (v := nI (i + 1)) (lv' := [(2, .int (nI (i + 1))), (0, .ref f), (1, .int x)]) hx hb dX0_firstThatLookedAt_29 hl (k := 2) rfl (nI_1 _) (by decide) rfl (fun ls hl => ?_)
        refine lv_goto (tgt := 2) hx hb dX0_firstThatLookedAt_32 (by decide) ?_
        exact ih (i + 1) (by first | assumption | omega) (lt_s hj (Int32.not_lt.mpr c_24)) (by omega) ls (lv_sub hl [1, 2, 0] rfl)
      ·
        refine lv_iload_n hx hb dX0_firstThatLookedAt_27 rfl (lv_at hl 2 rfl) ?_
        exact hx1 i (by first | assumption | omega) (by first | assumption | omega) (Int32.not_le.mp c_24)  ls (lv_sub hl [0] rfl)
set_option maxHeartbeats 1000000 in
set_option maxRecDepth 100000 in
/-- X0.firstThatLookedAt  -/
theorem c_X0_firstThatLookedAt (l : Launch) (D : va_G) (cI : ClassId) (f : Nat) (b0 : Nat) (b1 : Nat) (b2 : Nat) (b3 : Nat) (F : Nat → Nat → Int32) (n : Nat) (x : Int32) (hn : n ≤ 400) : Met l yX0_firstThatLookedAt (Cond.code yX0_firstThatLookedAt cX0_firstThatLookedAt 3 (some .int) :: es_T) { frames := 0, cells := 0, slots := 0, locals := 0 } (va_Pc [.ref f, .int x] (es_R D cI [(f, .inr (0, [.ref b0, .ref b1, .ref b2, .ref b3, .int (nI n)])), (b0, .inl (cI, 400, .inl (F 0))), (b1, .inl (cI, 400, .inl (F 1))), (b2, .inl (cI, 400, .inl (F 2))), (b3, .inl (cI, 400, .inl (F 3)))])) (vp_Si (fun r => ∃ i : Nat, i ≤ n ∧ r = nI i ∧ (∀ j, j < i → ¬ x < F 0 j + F 3 j) ∧ (i < n → x < F 0 i + F 3 i))) 0 0 (fun _ => False) := by
  refine Met.ofW (cc := cX0_firstThatLookedAt) (maxL := 3) (ret := (some .int)) (by decide) rfl ?_
  intro p e s m args below meth c s₁ B hml hv
  obtain ⟨rfl, hP, hK⟩ := hv
  have hx := B.exec
  have hb := B.bytes
  have hr := B.returns
  have hts := atoms_spec (ws := (Cond.code yX0_firstThatLookedAt cX0_firstThatLookedAt 3 (some .int) :: es_T)) B.pre
  have hw : ∀ w ∈ es_T, w.before _ s = true := fun w h => hts w (List.mem_cons_of_mem _ h)
  have hown : s.vm.findClass RX0 = some m.cls := findClass_of_methodNamed B.named
  have hlocks := B.notSynchronized
  have hRm : 0 ≤ (headSpec (Cond.code yX0_firstThatLookedAt cX0_firstThatLookedAt 3 (some .int) :: es_T) { frames := 0, cells := 0, slots := 0, locals := 0 }).room.frames ∧ 0 ≤ (headSpec (Cond.code yX0_firstThatLookedAt cX0_firstThatLookedAt 3 (some .int) :: es_T) { frames := 0, cells := 0, slots := 0, locals := 0 }).room.locals := ⟨Nat.le_refl _, Nat.le_refl _⟩
  have hRc : 0 ≤ (headSpec (Cond.code yX0_firstThatLookedAt cX0_firstThatLookedAt 3 (some .int) :: es_T) { frames := 0, cells := 0, slots := 0, locals := 0 }).room.cells ∧ 0 ≤ (headSpec (Cond.code yX0_firstThatLookedAt cX0_firstThatLookedAt 3 (some .int) :: es_T) { frames := 0, cells := 0, slots := 0, locals := 0 }).room.slots := ⟨Nat.le_refl _, Nat.le_refl _⟩
  have hl := lv_entry ([.ref f, .int x]) (n := 3) (Nat.le_of_ble_eq_true rfl)
  rw [lg_entry_eq]
  generalize (lg_sl ([.ref f, .int x]) ++ List.replicate (3 - (lg_sl ([.ref f, .int x])).length) Slot.unset).toArray = ls at hl ⊢
  have hl : lv_has ls 3 [(0, .ref f), (1, .int x)] := hl
  refine lv_iconst (v := nI 0) hx hb dX0_firstThatLookedAt_0 (by decide) ?_
  refine lv_istore_n (lv' := [(2, .int (nI 0)), (0, .ref f), (1, .int x)]) hx hb dX0_firstThatLookedAt_1 rfl hl (by decide) rfl (fun ls hl => ?_)
  refine lp_firstThat D cI f b0 b1 b2 b3 F n x hx hb hml hown hw hK ⟨Nat.le_trans (Nat.le_of_ble_eq_true rfl) hRm.1, Nat.le_trans (Nat.le_of_ble_eq_true rfl) hRm.2⟩ hP (by first | assumption | omega) (fun i hi hj hc ls hl => ?_) (fun _ hj ls hl => ?_) ((n - 0) + 1) 0 (by first | assumption | omega) (fun j h => absurd h (Nat.not_lt_zero _)) (Nat.lt_succ_self _) ls (lv_sub hl [1, 2, 0] rfl)
  ·
    exact W.iret (v := nI i) hx hb hr (fun zt ht hW => ⟨_, rfl, ⟨i, Nat.le_of_lt hi, rfl, hj, fun _ => hc⟩, ht⟩) (fun _ h => by cases h) dX0_firstThatLookedAt_28
  ·
    refine lv_aload_n hx hb dX0_firstThatLookedAt_35 rfl (lv_at hl 0 rfl) ?_
    refine va_get (D := D) (ci := 0) (v := .int (nI n)) (C := RX0) (T := TX0) (N := 5) hx hb hw iwX0 hown hK.1 hP 0 rfl rfl 4 (by decide) (hw _ xw_77) (fun _ h9 => h9) rfl dX0_firstThatLookedAt_36 ?_
    exact W.iret (v := nI n) hx hb hr (fun zt ht hW => ⟨_, rfl, ⟨n, Nat.le_refl n, rfl, hj, fun h => absurd h (Nat.lt_irrefl n)⟩, ht⟩) (fun _ h => by cases h) dX0_firstThatLookedAt_39
set_option maxHeartbeats 1000000 in
set_option maxRecDepth 100000 in
theorem lp_firstFrom {p : Program} {l : Launch} {e : Env} {R : Room} {s : State} {m : MethodId} {args : Array Value} {below : List Frame} {meth : Method} {c : Code} {Q : State → Prop} {H : Heap} {locs : List Loc} (D : va_G) (cI : ClassId) (f : Nat) (b0 : Nat) (b1 : Nat) (b2 : Nat) (b3 : Nat) (F : Nat → Nat → Int32) (n : Nat) (k : Nat) (x : Int32) (hx : p.tables.exec = Jvm.exec) (hb : c.code = cX0_firstFrom) (hml : c.maxLocals = 4) (hown : s.vm.findClass RX0 = some m.cls) (hw : ∀ w ∈ es_T, w.before args s = true) (hK : es_K D cI s) (hRm : 1 ≤ R.frames ∧ 21 ≤ R.locals) (hP : va_P D vwCl [(f, .inr (0, [.ref b0, .ref b1, .ref b2, .ref b3, .int (nI n)])), (b0, .inl (cI, 400, .inl (F 0))), (b1, .inl (cI, 400, .inl (F 1))), (b2, .inl (cI, 400, .inl (F 2))), (b3, .inl (cI, 400, .inl (F 3)))] H) (hn : n ≤ 400) (hx1 : ∀ (i : Nat), (k ≤ i) → (i < n) → (∀ j, k ≤ j → j < i → F 0 j < x) → (x ≤ F 0 i) → ∀ (ls : Array Slot), lv_has ls 4 [(0, .ref f)] →  W p l e R s m args below meth c H locs 0 0 Q (F0 m 25 ls [.int (nI i)])) (hx2 : ∀ (_ : Unit), (∀ j, k ≤ j → j < n → F 0 j < x) → ∀ (ls : Array Slot), lv_has ls 4 [(0, .ref f)] →  W p l e R s m args below meth c H locs 0 0 Q (F0 m 32 ls [])) : ∀ (N : Nat) (i : Nat), (k ≤ i) → (i ≤ n) → (∀ j, k ≤ j → j < i → F 0 j < x) → (n - i) < N → ∀ (ls : Array Slot), lv_has ls 4 [(0, .ref f), (2, .int x), (3, .int (nI i))] →  W p l e R s m args below meth c H locs 0 0 Q (F0 m 6 ls []) := by
  intro N
  induction N with
  | zero =>
    intro i hk hi hj hN
    exact absurd hN (Nat.not_lt_zero _)
  | succ N ih =>
    intro i hk hi hj hN ls hl
    refine lv_iload_n hx hb dX0_firstFrom_6 rfl (lv_at hl 2 rfl) ?_
    refine lv_aload_n hx hb dX0_firstFrom_7 rfl (lv_at hl 0 rfl) ?_
    refine va_get (D := D) (ci := 0) (v := .int (nI n)) (C := RX0) (T := TX0) (N := 5) hx hb hw iwX0 hown hK.1 hP 0 rfl rfl 4 (by decide) (hw _ xw_77) (fun _ h9 => h9) rfl dX0_firstFrom_8 ?_
    refine lv_icmp_ge (tgt := 32) hx hb dX0_firstFrom_11 (by decide) (fun c_11 => ?_) (fun c_11 => ?_)
    ·
      have c_11 := (nI_leI (by omega) (by omega)).mp c_11
      exact hx2 () (fun j h1 h => hj j h1 (by omega))  ls (lv_sub hl [0] rfl)
    ·
      have c_11 := (mt (nI_leI (by omega) (by omega)).mpr c_11)
      refine lv_aload_n hx hb dX0_firstFrom_14 rfl (lv_at hl 0 rfl) ?_
      refine va_get (D := D) (ci := 0) (v := .ref b0) (C := RX0) (T := TX0) (N := 5) hx hb hw iwX0 hown hK.1 hP 0 rfl rfl 0 (by decide) (hw _ xw_78) (fun _ h9 => h9) rfl dX0_firstFrom_15 ?_
      refine lv_iload_n hx hb dX0_firstFrom_18 rfl (lv_at hl 2 rfl) ?_
      refine es_iald hx hb hK.1 hP 1 0 rfl rfl (by omega) (Nat.le_of_ble_eq_true rfl) dX0_firstFrom_19 ?_
      refine lv_iload_n hx hb dX0_firstFrom_20 rfl (lv_at hl 1 rfl) ?_
      refine lv_icmp_lt (tgt := 26) hx hb dX0_firstFrom_21 (by decide) (fun c_21 => ?_) (fun c_21 => ?_)
      ·
        refine lv_iinc (v := nI (i + 1)) (lv' := [(3, .int (nI (i + 1))), (0, .ref f), (2, .int x)]) hx hb dX0_firstFrom_26 hl (k := 2) rfl (nI_1 _) (by decide) rfl (fun ls hl => ?_)
        refine lv_goto (tgt := 6) hx hb dX0_firstFrom_29 (by decide) ?_
        exact ih (i + 1) (by first | assumption | omega) (by first | assumption | omega) (fun j h1 h2 => if e : j = i then by rw [e]; exact c_21 else hj j h1 (by omega)) (by omega) ls (lv_sub hl [1, 2, 0] rfl)
      ·
        refine lv_iload_n hx hb dX0_firstFrom_24 rfl (lv_at hl 2 rfl) ?_
        exact hx1 i (by first | assumption | omega) (by first | assumption | omega) (by first | assumption | omega) (Int32.not_lt.mp c_21)  ls (lv_sub hl [0] rfl)
set_option maxHeartbeats 1000000 in
set_option maxRecDepth 100000 in
/-- X0.firstFrom  -/
theorem c_X0_firstFrom (l : Launch) (D : va_G) (cI : ClassId) (f : Nat) (b0 : Nat) (b1 : Nat) (b2 : Nat) (b3 : Nat) (F : Nat → Nat → Int32) (n : Nat) (k : Nat) (x : Int32) (hn : n ≤ 400) (hk : k ≤ n) : Met l yX0_firstFrom (Cond.code yX0_firstFrom cX0_firstFrom 4 (some .int) :: es_T) { frames := 1, cells := 0, slots := 0, locals := 21 } (va_Pc [.ref f, .int (nI k), .int x] (es_R D cI [(f, .inr (0, [.ref b0, .ref b1, .ref b2, .ref b3, .int (nI n)])), (b0, .inl (cI, 400, .inl (F 0))), (b1, .inl (cI, 400, .inl (F 1))), (b2, .inl (cI, 400, .inl (F 2))), (b3, .inl (cI, 400, .inl (F 3)))])) (vp_Si (fun r => ∃ i : Nat, k ≤ i ∧ i ≤ n ∧ r = nI i ∧ (∀ j, k ≤ j → j < i → F 0 j < x) ∧ (i < n → x ≤ F 0 i))) 0 0 (fun _ => False) := by
  refine Met.ofW (cc := cX0_firstFrom) (maxL := 4) (ret := (some .int)) (by decide) rfl ?_
  intro p e s m args below meth c s₁ B hml hv
  obtain ⟨rfl, hP, hK⟩ := hv
  have hx := B.exec
  have hb := B.bytes
  have hr := B.returns
  have hts := atoms_spec (ws := (Cond.code yX0_firstFrom cX0_firstFrom 4 (some .int) :: es_T)) B.pre
  have hw : ∀ w ∈ es_T, w.before _ s = true := fun w h => hts w (List.mem_cons_of_mem _ h)
  have hown : s.vm.findClass RX0 = some m.cls := findClass_of_methodNamed B.named
  have hlocks := B.notSynchronized
  have hRm : 1 ≤ (headSpec (Cond.code yX0_firstFrom cX0_firstFrom 4 (some .int) :: es_T) { frames := 1, cells := 0, slots := 0, locals := 21 }).room.frames ∧ 21 ≤ (headSpec (Cond.code yX0_firstFrom cX0_firstFrom 4 (some .int) :: es_T) { frames := 1, cells := 0, slots := 0, locals := 21 }).room.locals := ⟨Nat.le_refl _, Nat.le_refl _⟩
  have hRc : 0 ≤ (headSpec (Cond.code yX0_firstFrom cX0_firstFrom 4 (some .int) :: es_T) { frames := 1, cells := 0, slots := 0, locals := 21 }).room.cells ∧ 0 ≤ (headSpec (Cond.code yX0_firstFrom cX0_firstFrom 4 (some .int) :: es_T) { frames := 1, cells := 0, slots := 0, locals := 21 }).room.slots := ⟨Nat.le_refl _, Nat.le_refl _⟩
  have hl := lv_entry ([.ref f, .int (nI k), .int x]) (n := 4) (Nat.le_of_ble_eq_true rfl)
  rw [lg_entry_eq]
  generalize (lg_sl ([.ref f, .int (nI k), .int x]) ++ List.replicate (4 - (lg_sl ([.ref f, .int (nI k), .int x])).length) Slot.unset).toArray = ls at hl ⊢
  have hl : lv_has ls 4 [(0, .ref f), (1, .int (nI k)), (2, .int x)] := hl
  refine lv_iload_n hx hb dX0_firstFrom_0 rfl (lv_at hl 1 rfl) ?_
  refine lv_iconst (v := nI 0) hx hb dX0_firstFrom_1 (by decide) ?_
  refine va_mmax hx hb (by rw [hml]; exact hl.1.symm) hown (hw _ xw_87) (hw _ xw_88) (hw _ xw_89) (hw _ xw_90) (Nat.le_trans (Nat.le_of_ble_eq_true rfl) hRm.1) (Nat.le_trans (Nat.le_of_ble_eq_true rfl) hRm.2) (Nat.zero_le _) (Nat.zero_le _) dX0_firstFrom_2 ?_
  refine es_top (y := nI k) (if_neg (fun h => absurd h (nI_pos (by omega)))) ?_
  refine lv_istore_n (lv' := [(3, .int (nI k)), (0, .ref f), (1, .int (nI k)), (2, .int x)]) hx hb dX0_firstFrom_5 rfl hl (by decide) rfl (fun ls hl => ?_)
  refine lp_firstFrom D cI f b0 b1 b2 b3 F n k x hx hb hml hown hw hK ⟨Nat.le_trans (Nat.le_of_ble_eq_true rfl) hRm.1, Nat.le_trans (Nat.le_of_ble_eq_true rfl) hRm.2⟩ hP (by first | assumption | omega) (fun i hk hi hj hc ls hl => ?_) (fun _ hj ls hl => ?_) ((n - k) + 1) k (by first | assumption | omega) (by first | assumption | omega) (fun j h1 h2 => absurd h2 (Nat.not_lt.mpr h1)) (Nat.lt_succ_self _) ls (lv_sub hl [1, 3, 0] rfl)
  ·
    exact W.iret (v := nI i) hx hb hr (fun zt ht hW => ⟨_, rfl, ⟨i, hk, Nat.le_of_lt hi, rfl, hj, fun _ => hc⟩, ht⟩) (fun _ h => by cases h) dX0_firstFrom_25
  ·
    refine lv_aload_n hx hb dX0_firstFrom_32 rfl (lv_at hl 0 rfl) ?_
    refine va_get (D := D) (ci := 0) (v := .int (nI n)) (C := RX0) (T := TX0) (N := 5) hx hb hw iwX0 hown hK.1 hP 0 rfl rfl 4 (by decide) (hw _ xw_77) (fun _ h9 => h9) rfl dX0_firstFrom_33 ?_
    exact W.iret (v := nI n) hx hb hr (fun zt ht hW => ⟨_, rfl, ⟨n, by assumption, Nat.le_refl n, rfl, hj, fun h => absurd h (Nat.lt_irrefl n)⟩, ht⟩) (fun _ h => by cases h) dX0_firstFrom_36
set_option maxHeartbeats 1000000 in
set_option maxRecDepth 100000 in
/-- X0.add  -/
theorem c_X0_add (l : Launch) (D : va_G) (cI : ClassId) (sz : Nat) (f : Nat) (b0 : Nat) (b1 : Nat) (b2 : Nat) (b3 : Nat) (F : Nat → Nat → Int32) (n : Nat) (v0 : Int32) (v1 : Int32) (v2 : Int32) (v3 : Int32) (hn : n < 400) : Met l yX0_add (Cond.code yX0_add cX0_add 5 none :: es_T) { frames := 0, cells := 0, slots := 0, locals := 0 } (va_Pc [.ref f, .int v0, .int v1, .int v2, .int v3] (es_W D cI sz [(f, .inr (0, [.ref b0, .ref b1, .ref b2, .ref b3, .int (nI n)])), (b0, .inl (cI, 400, .inl (F 0))), (b1, .inl (cI, 400, .inl (F 1))), (b2, .inl (cI, 400, .inl (F 2))), (b3, .inl (cI, 400, .inl (F 3)))])) (va_Qv (fun _ => True) (fun (u : Unit) zt => va_P D vwCl [(f, .inr (0, [.ref b0, .ref b1, .ref b2, .ref b3, .int (nI (n + 1))])), (b0, .inl (cI, 400, .inl (upd (F 0) n v0))), (b1, .inl (cI, 400, .inl (upd (F 1) n v1))), (b2, .inl (cI, 400, .inl (upd (F 2) n v2))), (b3, .inl (cI, 400, .inl (upd (F 3) n v3)))] zt.heap ∧ va_D (va_A [(f, .inr (0, [.ref b0, .ref b1, .ref b2, .ref b3, .int (nI n)])), (b0, .inl (cI, 400, .inl (F 0))), (b1, .inl (cI, 400, .inl (F 1))), (b2, .inl (cI, 400, .inl (F 2))), (b3, .inl (cI, 400, .inl (F 3)))] sz) [(f, .inr (0, [.ref b0, .ref b1, .ref b2, .ref b3, .int (nI (n + 1))])), (b0, .inl (cI, 400, .inl (upd (F 0) n v0))), (b1, .inl (cI, 400, .inl (upd (F 1) n v1))), (b2, .inl (cI, 400, .inl (upd (F 2) n v2))), (b3, .inl (cI, 400, .inl (upd (F 3) n v3)))]) (va_A [(f, .inr (0, [.ref b0, .ref b1, .ref b2, .ref b3, .int (nI n)])), (b0, .inl (cI, 400, .inl (F 0))), (b1, .inl (cI, 400, .inl (F 1))), (b2, .inl (cI, 400, .inl (F 2))), (b3, .inl (cI, 400, .inl (F 3)))] sz)) 0 0 (va_A [(f, .inr (0, [.ref b0, .ref b1, .ref b2, .ref b3, .int (nI n)])), (b0, .inl (cI, 400, .inl (F 0))), (b1, .inl (cI, 400, .inl (F 1))), (b2, .inl (cI, 400, .inl (F 2))), (b3, .inl (cI, 400, .inl (F 3)))] sz) := by
  refine Met.ofW (cc := cX0_add) (maxL := 5) (ret := none) (by decide) rfl ?_
  intro p e s m args below meth c s₁ B hml hv
  obtain ⟨rfl, hsz, hP, hK, hD0⟩ := hv
  have hx := B.exec
  have hb := B.bytes
  have hr := B.returns
  have hts := atoms_spec (ws := (Cond.code yX0_add cX0_add 5 none :: es_T)) B.pre
  have hw : ∀ w ∈ es_T, w.before _ s = true := fun w h => hts w (List.mem_cons_of_mem _ h)
  have hown : s.vm.findClass RX0 = some m.cls := findClass_of_methodNamed B.named
  have hlocks := B.notSynchronized
  have hRm : 0 ≤ (headSpec (Cond.code yX0_add cX0_add 5 none :: es_T) { frames := 0, cells := 0, slots := 0, locals := 0 }).room.frames ∧ 0 ≤ (headSpec (Cond.code yX0_add cX0_add 5 none :: es_T) { frames := 0, cells := 0, slots := 0, locals := 0 }).room.locals := ⟨Nat.le_refl _, Nat.le_refl _⟩
  have hRc : 0 ≤ (headSpec (Cond.code yX0_add cX0_add 5 none :: es_T) { frames := 0, cells := 0, slots := 0, locals := 0 }).room.cells ∧ 0 ≤ (headSpec (Cond.code yX0_add cX0_add 5 none :: es_T) { frames := 0, cells := 0, slots := 0, locals := 0 }).room.slots := ⟨Nat.le_refl _, Nat.le_refl _⟩
  subst hsz
  have hD := hD0.self (sz := s.heap.size)
  generalize hAe : va_A [(f, .inr (0, [.ref b0, .ref b1, .ref b2, .ref b3, .int (nI n)])), (b0, .inl (cI, 400, .inl (F 0))), (b1, .inl (cI, 400, .inl (F 1))), (b2, .inl (cI, 400, .inl (F 2))), (b3, .inl (cI, 400, .inl (F 3)))] s.heap.size = A at hD ⊢
  have hA : ∀ q : Nat, s.heap.size ≤ q → A q := fun q h => by rw [← hAe]; exact Or.inr h
  have hS : va_S A s.heap s.heap [] := va_S.rf
  have hl := lv_entry ([.ref f, .int v0, .int v1, .int v2, .int v3]) (n := 5) (Nat.le_of_ble_eq_true rfl)
  rw [lg_entry_eq]
  generalize (lg_sl ([.ref f, .int v0, .int v1, .int v2, .int v3]) ++ List.replicate (5 - (lg_sl ([.ref f, .int v0, .int v1, .int v2, .int v3])).length) Slot.unset).toArray = ls at hl ⊢
  have hl : lv_has ls 5 [(0, .ref f), (1, .int v0), (2, .int v1), (3, .int v2), (4, .int v3)] := hl
  refine lv_aload_n hx hb dX0_add_0 rfl (lv_at hl 0 rfl) ?_
  refine va_get (D := D) (ci := 0) (v := .int (nI n)) (C := RX0) (T := TX0) (N := 5) hx hb hw iwX0 hown hK.1 hP 0 rfl rfl 4 (by decide) (hw _ xw_77) (fun _ h9 => h9) rfl dX0_add_1 ?_
  refine lv_sipush (v := nI 400) hx hb dX0_add_4 (by decide) ?_
  refine lv_icmp_lt (tgt := 11) hx hb dX0_add_7 (by decide) (fun c_7 => ?_) (fun c_7 => ?_)
  ·
    have c_7 := (nI_ltI (by omega) (by omega)).mp c_7
    refine lv_aload_n hx hb dX0_add_11 rfl (lv_at hl 0 rfl) ?_
    refine va_get (D := D) (ci := 0) (v := .ref b0) (C := RX0) (T := TX0) (N := 5) hx hb hw iwX0 hown hK.1 hP 0 rfl rfl 0 (by decide) (hw _ xw_78) (fun _ h9 => h9) rfl dX0_add_12 ?_
    refine lv_aload_n hx hb dX0_add_15 rfl (lv_at hl 0 rfl) ?_
    refine va_get (D := D) (ci := 0) (v := .int (nI n)) (C := RX0) (T := TX0) (N := 5) hx hb hw iwX0 hown hK.1 hP 0 rfl rfl 4 (by decide) (hw _ xw_77) (fun _ h9 => h9) rfl dX0_add_16 ?_
    refine lv_iload_n hx hb dX0_add_19 rfl (lv_at hl 1 rfl) ?_
    refine es_iast hx hb hK.1 hP hD hS 1 0 rfl rfl (by omega) (Nat.le_of_ble_eq_true rfl) dX0_add_20 (fun H locs hP hD hS => ?_)
    have hP : va_P D vwCl [(f, .inr (0, [.ref b0, .ref b1, .ref b2, .ref b3, .int (nI n)])), (b0, .inl (cI, 400, .inl (upd (F 0) n v0))), (b1, .inl (cI, 400, .inl (F 1))), (b2, .inl (cI, 400, .inl (F 2))), (b3, .inl (cI, 400, .inl (F 3)))] H := hP
    have hD : va_D A [(f, .inr (0, [.ref b0, .ref b1, .ref b2, .ref b3, .int (nI n)])), (b0, .inl (cI, 400, .inl (upd (F 0) n v0))), (b1, .inl (cI, 400, .inl (F 1))), (b2, .inl (cI, 400, .inl (F 2))), (b3, .inl (cI, 400, .inl (F 3)))] := hD
    refine lv_aload_n hx hb dX0_add_21 rfl (lv_at hl 0 rfl) ?_
    refine va_get (D := D) (ci := 0) (v := .ref b1) (C := RX0) (T := TX0) (N := 5) hx hb hw iwX0 hown hK.1 hP 0 rfl rfl 1 (by decide) (hw _ xw_79) (fun _ h9 => h9) rfl dX0_add_22 ?_
    refine lv_aload_n hx hb dX0_add_25 rfl (lv_at hl 0 rfl) ?_
    refine va_get (D := D) (ci := 0) (v := .int (nI n)) (C := RX0) (T := TX0) (N := 5) hx hb hw iwX0 hown hK.1 hP 0 rfl rfl 4 (by decide) (hw _ xw_77) (fun _ h9 => h9) rfl dX0_add_26 ?_
    refine lv_iload_n hx hb dX0_add_29 rfl (lv_at hl 2 rfl) ?_
    refine es_iast hx hb hK.1 hP hD hS 2 0 rfl rfl (by omega) (Nat.le_of_ble_eq_true rfl) dX0_add_30 (fun H locs hP hD hS => ?_)
    have hP : va_P D vwCl [(f, .inr (0, [.ref b0, .ref b1, .ref b2, .ref b3, .int (nI n)])), (b0, .inl (cI, 400, .inl (upd (F 0) n v0))), (b1, .inl (cI, 400, .inl (upd (F 1) n v1))), (b2, .inl (cI, 400, .inl (F 2))), (b3, .inl (cI, 400, .inl (F 3)))] H := hP
    have hD : va_D A [(f, .inr (0, [.ref b0, .ref b1, .ref b2, .ref b3, .int (nI n)])), (b0, .inl (cI, 400, .inl (upd (F 0) n v0))), (b1, .inl (cI, 400, .inl (upd (F 1) n v1))), (b2, .inl (cI, 400, .inl (F 2))), (b3, .inl (cI, 400, .inl (F 3)))] := hD
    refine lv_aload_n hx hb dX0_add_31 rfl (lv_at hl 0 rfl) ?_
    refine va_get (D := D) (ci := 0) (v := .ref b2) (C := RX0) (T := TX0) (N := 5) hx hb hw iwX0 hown hK.1 hP 0 rfl rfl 2 (by decide) (hw _ xw_80) (fun _ h9 => h9) rfl dX0_add_32 ?_
    refine lv_aload_n hx hb dX0_add_35 rfl (lv_at hl 0 rfl) ?_
    refine va_get (D := D) (ci := 0) (v := .int (nI n)) (C := RX0) (T := TX0) (N := 5) hx hb hw iwX0 hown hK.1 hP 0 rfl rfl 4 (by decide) (hw _ xw_77) (fun _ h9 => h9) rfl dX0_add_36 ?_
    refine lv_iload_n hx hb dX0_add_39 rfl (lv_at hl 3 rfl) ?_
    refine es_iast hx hb hK.1 hP hD hS 3 0 rfl rfl (by omega) (Nat.le_of_ble_eq_true rfl) dX0_add_40 (fun H locs hP hD hS => ?_)
    have hP : va_P D vwCl [(f, .inr (0, [.ref b0, .ref b1, .ref b2, .ref b3, .int (nI n)])), (b0, .inl (cI, 400, .inl (upd (F 0) n v0))), (b1, .inl (cI, 400, .inl (upd (F 1) n v1))), (b2, .inl (cI, 400, .inl (upd (F 2) n v2))), (b3, .inl (cI, 400, .inl (F 3)))] H := hP
    have hD : va_D A [(f, .inr (0, [.ref b0, .ref b1, .ref b2, .ref b3, .int (nI n)])), (b0, .inl (cI, 400, .inl (upd (F 0) n v0))), (b1, .inl (cI, 400, .inl (upd (F 1) n v1))), (b2, .inl (cI, 400, .inl (upd (F 2) n v2))), (b3, .inl (cI, 400, .inl (F 3)))] := hD
    refine lv_aload_n hx hb dX0_add_41 rfl (lv_at hl 0 rfl) ?_
    refine va_get (D := D) (ci := 0) (v := .ref b3) (C := RX0) (T := TX0) (N := 5) hx hb hw iwX0 hown hK.1 hP 0 rfl rfl 3 (by decide) (hw _ xw_81) (fun _ h9 => h9) rfl dX0_add_42 ?_
    refine lv_aload_n hx hb dX0_add_45 rfl (lv_at hl 0 rfl) ?_
    refine va_get (D := D) (ci := 0) (v := .int (nI n)) (C := RX0) (T := TX0) (N := 5) hx hb hw iwX0 hown hK.1 hP 0 rfl rfl 4 (by decide) (hw _ xw_77) (fun _ h9 => h9) rfl dX0_add_46 ?_
    refine lv_iload hx hb dX0_add_49 (lv_at hl 4 rfl) ?_
    refine es_iast hx hb hK.1 hP hD hS 4 0 rfl rfl (by omega) (Nat.le_of_ble_eq_true rfl) dX0_add_51 (fun H locs hP hD hS => ?_)
    have hP : va_P D vwCl [(f, .inr (0, [.ref b0, .ref b1, .ref b2, .ref b3, .int (nI n)])), (b0, .inl (cI, 400, .inl (upd (F 0) n v0))), (b1, .inl (cI, 400, .inl (upd (F 1) n v1))), (b2, .inl (cI, 400, .inl (upd (F 2) n v2))), (b3, .inl (cI, 400, .inl (upd (F 3) n v3)))] H := hP
    have hD : va_D A [(f, .inr (0, [.ref b0, .ref b1, .ref b2, .ref b3, .int (nI n)])), (b0, .inl (cI, 400, .inl (upd (F 0) n v0))), (b1, .inl (cI, 400, .inl (upd (F 1) n v1))), (b2, .inl (cI, 400, .inl (upd (F 2) n v2))), (b3, .inl (cI, 400, .inl (upd (F 3) n v3)))] := hD
    refine lv_aload_n hx hb dX0_add_52 rfl (lv_at hl 0 rfl) ?_
    refine lv_dup hx hb dX0_add_53 rfl ?_
    refine va_get (D := D) (ci := 0) (v := .int (nI n)) (C := RX0) (T := TX0) (N := 5) hx hb hw iwX0 hown hK.1 hP 0 rfl rfl 4 (by decide) (hw _ xw_77) (fun _ h9 => h9) rfl dX0_add_54 ?_
    refine lv_iconst (v := nI 1) hx hb dX0_add_57 (by decide) ?_
    refine lv_iadd hx hb dX0_add_58 ?_
    refine es_top (y := nI (n + 1)) (nI_add _ _) ?_
    refine va_put (D := D) (ci := 0) (v := .int (nI (n + 1))) (ty := .int) (C := RX0) (T := TX0) (N := 5) hx hb hw iwX0 tyX0 tyX0_ok nmX0 hown hK.1 hP hD hS 0 rfl rfl 4 (by decide) (hw _ xw_77) (fun _ h9 => h9) rfl (by decide +kernel) rfl rfl (Nat.le_of_ble_eq_true rfl) dX0_add_59 (fun H locs hP hD hS => ?_)
    have hP : va_P D vwCl [(f, .inr (0, [.ref b0, .ref b1, .ref b2, .ref b3, .int (nI (n + 1))])), (b0, .inl (cI, 400, .inl (upd (F 0) n v0))), (b1, .inl (cI, 400, .inl (upd (F 1) n v1))), (b2, .inl (cI, 400, .inl (upd (F 2) n v2))), (b3, .inl (cI, 400, .inl (upd (F 3) n v3)))] H := hP
    have hD : va_D A [(f, .inr (0, [.ref b0, .ref b1, .ref b2, .ref b3, .int (nI (n + 1))])), (b0, .inl (cI, 400, .inl (upd (F 0) n v0))), (b1, .inl (cI, 400, .inl (upd (F 1) n v1))), (b2, .inl (cI, 400, .inl (upd (F 2) n v2))), (b3, .inl (cI, 400, .inl (upd (F 3) n v3)))] := hD
    exact W.vret hx hb hr (fun zt ht hW => ⟨⟨(), rfl, trivial, ⟨by rw [ht]; exact hP.sub [0, 1, 2, 3, 4] rfl, hD.sub [0, 1, 2, 3, 4] (by decide) rfl⟩⟩, hS.F ht⟩) hS.2.2 dX0_add_62
  ·
    have c_7 := (mt (nI_ltI (by omega) (by omega)).mpr c_7)
    exact absurd hn (by omega)
set_option maxHeartbeats 1000000 in
set_option maxRecDepth 100000 in
theorem lp_takeUpTo {p : Program} {l : Launch} {e : Env} {R : Room} {s : State} {m : MethodId} {args : Array Value} {below : List Frame} {meth : Method} {c : Code} {Q : State → Prop} {A : Nat → Prop} {H0 : Heap} (D : va_G) (cI : ClassId) (f : Nat) (b0 : Nat) (b1 : Nat) (b2 : Nat) (b3 : Nat) (g : Nat) (g0 : Nat) (g1 : Nat) (g2 : Nat) (g3 : Nat) (G : Nat → Nat → Int32) (gn : Nat) (k : Nat) (hx : p.tables.exec = Jvm.exec) (hb : c.code = cX0_takeUpTo) (hml : c.maxLocals = 4) (hown : s.vm.findClass RX0 = some m.cls) (hw : ∀ w ∈ es_T, w.before args s = true) (hK : es_K D cI s) (hRm : 1 ≤ R.frames ∧ 24 ≤ R.locals) (hA : ∀ q : Nat, H0.size ≤ q → A q) (hgn : gn ≤ 400) (hk : k ≤ gn) (hex : ∀ (i : Nat) (E : Nat → Nat → Int32), (i = k) → (∀ a, a < 4 → ∀ j, j < k → E a j = G a j) → ∀ (H : Heap) (locs : List Loc), va_P D vwCl [(f, .inr (0, [.ref b0, .ref b1, .ref b2, .ref b3, .int (nI i)])), (b0, .inl (cI, 400, .inl (E 0))), (b1, .inl (cI, 400, .inl (E 1))), (b2, .inl (cI, 400, .inl (E 2))), (b3, .inl (cI, 400, .inl (E 3))), (g, .inr (0, [.ref g0, .ref g1, .ref g2, .ref g3, .int (nI gn)])), (g0, .inl (cI, 400, .inl (G 0))), (g1, .inl (cI, 400, .inl (G 1))), (g2, .inl (cI, 400, .inl (G 2))), (g3, .inl (cI, 400, .inl (G 3)))] H → va_D A [(f, .inr (0, [.ref b0, .ref b1, .ref b2, .ref b3, .int (nI i)])), (b0, .inl (cI, 400, .inl (E 0))), (b1, .inl (cI, 400, .inl (E 1))), (b2, .inl (cI, 400, .inl (E 2))), (b3, .inl (cI, 400, .inl (E 3))), (g, .inr (0, [.ref g0, .ref g1, .ref g2, .ref g3, .int (nI gn)])), (g0, .inl (cI, 400, .inl (G 0))), (g1, .inl (cI, 400, .inl (G 1))), (g2, .inl (cI, 400, .inl (G 2))), (g3, .inl (cI, 400, .inl (G 3)))] → va_S A H0 H locs → ∀ (ls : Array Slot), lv_has ls 4 [(0, .ref f), (3, .int (nI i))] →  W p l e R s m args below meth c H locs 0 0 Q (F0 m 54 ls [])) : ∀ (N : Nat) (i : Nat) (E : Nat → Nat → Int32), (i ≤ k) → (∀ a, a < 4 → ∀ j, j < i → E a j = G a j) → (k - i) < N → ∀ (H : Heap) (locs : List Loc), va_P D vwCl [(f, .inr (0, [.ref b0, .ref b1, .ref b2, .ref b3, .int (nI i)])), (b0, .inl (cI, 400, .inl (E 0))), (b1, .inl (cI, 400, .inl (E 1))), (b2, .inl (cI, 400, .inl (E 2))), (b3, .inl (cI, 400, .inl (E 3))), (g, .inr (0, [.ref g0, .ref g1, .ref g2, .ref g3, .int (nI gn)])), (g0, .inl (cI, 400, .inl (G 0))), (g1, .inl (cI, 400, .inl (G 1))), (g2, .inl (cI, 400, .inl (G 2))), (g3, .inl (cI, 400, .inl (G 3)))] H → va_D A [(f, .inr (0, [.ref b0, .ref b1, .ref b2, .ref b3, .int (nI i)])), (b0, .inl (cI, 400, .inl (E 0))), (b1, .inl (cI, 400, .inl (E 1))), (b2, .inl (cI, 400, .inl (E 2))), (b3, .inl (cI, 400, .inl (E 3))), (g, .inr (0, [.ref g0, .ref g1, .ref g2, .ref g3, .int (nI gn)])), (g0, .inl (cI, 400, .inl (G 0))), (g1, .inl (cI, 400, .inl (G 1))), (g2, .inl (cI, 400, .inl (G 2))), (g3, .inl (cI, 400, .inl (G 3)))] → va_S A H0 H locs → ∀ (ls : Array Slot), lv_has ls 4 [(0, .ref f), (1, .ref g), (2, .int (nI k)), (3, .int (nI i))] →  W p l e R s m args below meth c H locs 0 0 Q (F0 m 7 ls []) := by
  intro N
  induction N with
  | zero =>
    intro i E hi hj hN
    exact absurd hN (Nat.not_lt_zero _)
  | succ N ih =>
    intro i E hi hj hN H locs hP hD hS ls hl
    refine lv_iload_n hx hb dX0_takeUpTo_7 rfl (lv_at hl 3 rfl) ?_
    refine lv_iload_n hx hb dX0_takeUpTo_8 rfl (lv_at hl 2 rfl) ?_
    refine lv_icmp_ge (tgt := 54) hx hb dX0_takeUpTo_9 (by decide) (fun c_9 => ?_) (fun c_9 => ?_)
    ·
      have c_9 := (nI_leI (by omega) (by omega)).mp c_9
      exact hex i E (by omega) (fun a ha j h => hj a ha j (by omega))  H locs (hP.sub [0, 1, 2, 3, 4, 5, 6, 7, 8, 9] rfl) (hD.sub [0, 1, 2, 3, 4, 5, 6, 7, 8, 9] (by decide) rfl) hS ls (lv_sub hl [0, 3] rfl)
    ·
      have c_9 := (mt (nI_leI (by omega) (by omega)).mpr c_9)
      refine lv_iload_n hx hb dX0_takeUpTo_12 rfl (lv_at hl 3 rfl) ?_
      refine lv_aload_n hx hb dX0_takeUpTo_13 rfl (lv_at hl 1 rfl) ?_
      refine va_get (D := D) (ci := 0) (v := .int (nI gn)) (C := RX0) (T := TX0) (N := 5) hx hb hw iwX0 hown hK.1 hP 5 rfl rfl 4 (by decide) (hw _ xw_77) (fun _ h9 => h9) rfl dX0_takeUpTo_14 ?_
      refine lv_icmp_ge (tgt := 54) hx hb dX0_takeUpTo_17 (by decide) (fun c_17 => ?_) (fun c_17 => ?_)
      ·
        have c_17 := (nI_leI (by omega) (by omega)).mp c_17
        exact hex i E (by omega) (fun a ha j h => hj a ha j (by omega))  H locs (hP.sub [0, 1, 2, 3, 4, 5, 6, 7, 8, 9] rfl) (hD.sub [0, 1, 2, 3, 4, 5, 6, 7, 8, 9] (by decide) rfl) hS ls (lv_sub hl [0, 3] rfl)
      ·
        have c_17 := (mt (nI_leI (by omega) (by omega)).mpr c_17)
        refine lv_aload_n hx hb dX0_takeUpTo_20 rfl (lv_at hl 0 rfl) ?_
        refine lv_aload_n hx hb dX0_takeUpTo_21 rfl (lv_at hl 1 rfl) ?_
        refine va_get (D := D) (ci := 0) (v := .ref g0) (C := RX0) (T := TX0) (N := 5) hx hb hw iwX0 hown hK.1 hP 5 rfl rfl 0 (by decide) (hw _ xw_78) (fun _ h9 => h9) rfl dX0_takeUpTo_22 ?_
        refine lv_iload_n hx hb dX0_takeUpTo_25 rfl (lv_at hl 3 rfl) ?_
        refine es_iald hx hb hK.1 hP 6 0 rfl rfl (by omega) (Nat.le_of_ble_eq_true rfl) dX0_takeUpTo_26 ?_
        refine lv_aload_n hx hb dX0_takeUpTo_27 rfl (lv_at hl 1 rfl) ?_
        refine va_get (D := D) (ci := 0) (v := .ref g1) (C := RX0) (T := TX0) (N := 5) hx hb hw iwX0 hown hK.1 hP 5 rfl rfl 1 (by decide) (hw _ xw_79) (fun _ h9 => h9) rfl dX0_takeUpTo_28 ?_
        refine lv_iload_n hx hb dX0_takeUpTo_31 rfl (lv_at hl 3 rfl) ?_
        refine es_iald hx hb hK.1 hP 7 0 rfl rfl (by omega) (Nat.le_of_ble_eq_true rfl) dX0_takeUpTo_32 ?_
        refine lv_aload_n hx hb dX0_takeUpTo_33 rfl (lv_at hl 1 rfl) ?_
        refine va_get (D := D) (ci := 0) (v := .ref g2) (C := RX0) (T := TX0) (N := 5) hx hb hw iwX0 hown hK.1 hP 5 rfl rfl 2 (by decide) (hw _ xw_80) (fun _ h9 => h9) rfl dX0_takeUpTo_34 ?_
        refine lv_iload_n hx hb dX0_takeUpTo_37 rfl (lv_at hl 3 rfl) ?_
        refine es_iald hx hb hK.1 hP 8 0 rfl rfl (by omega) (Nat.le_of_ble_eq_true rfl) dX0_takeUpTo_38 ?_
        refine lv_aload_n hx hb dX0_takeUpTo_39 rfl (lv_at hl 1 rfl) ?_
        refine va_get (D := D) (ci := 0) (v := .ref g3) (C := RX0) (T := TX0) (N := 5) hx hb hw iwX0 hown hK.1 hP 5 rfl rfl 3 (by decide) (hw _ xw_81) (fun _ h9 => h9) rfl dX0_takeUpTo_40 ?_
        refine lv_iload_n hx hb dX0_takeUpTo_43 rfl (lv_at hl 3 rfl) ?_
        refine es_iald hx hb hK.1 hP 9 0 rfl rfl (by omega) (Nat.le_of_ble_eq_true rfl) dX0_takeUpTo_44 ?_
        refine es_cv (wr := [(g, .inr (0, [.ref g0, .ref g1, .ref g2, .ref g3, .int (nI gn)])), (g0, .inl (cI, 400, .inl (G 0))), (g1, .inl (cI, 400, .inl (G 1))), (g2, .inl (cI, 400, .inl (G 2))), (g3, .inl (cI, 400, .inl (G 3)))]) (va_runV (As := [.int ((G 0) i), .int ((G 1) i), .int ((G 2) i), .int ((G 3) i)]) (rest := []) ⟨hx, hb, hml, hown, hw⟩ (c_X0_add l D cI H.size f b0 b1 b2 b3 E i ((G 0) i) ((G 1) i) ((G 2) i) ((G 3) i) (by first | assumption | omega)) (cwV 4 hw (es_v xw_95 xw_96 xw_97 xw_98 xw_83) rfl rfl rfl kv_X0_add ⟨Nat.le_trans (Nat.le_of_ble_eq_true rfl) hRm.1, Nat.le_trans (Nat.le_of_ble_eq_true rfl) hRm.2⟩) (es_WV hK (hP.sub (ws' := [(f, .inr (0, [.ref b0, .ref b1, .ref b2, .ref b3, .int (nI i)])), (b0, .inl (cI, 400, .inl (E 0))), (b1, .inl (cI, 400, .inl (E 1))), (b2, .inl (cI, 400, .inl (E 2))), (b3, .inl (cI, 400, .inl (E 3)))]) [0, 1, 2, 3, 4] rfl) (hD.sub (ws' := [(f, .inr (0, [.ref b0, .ref b1, .ref b2, .ref b3, .int (nI i)])), (b0, .inl (cI, 400, .inl (E 0))), (b1, .inl (cI, 400, .inl (E 1))), (b2, .inl (cI, 400, .inl (E 2))), (b3, .inl (cI, 400, .inl (E 3)))]) [0, 1, 2, 3, 4] (by decide) rfl) rfl rfl) rfl rfl hl.1 rfl (lv_room (Nat.le_of_ble_eq_true rfl)) dX0_takeUpTo_45 ⟨(Nat.zero_le _), (Nat.zero_le _)⟩) hP hD hS hA [0, 1, 2, 3, 4] [5, 6, 7, 8, 9] rfl rfl (by decide) (by decide) (fun u_1 H locs hu_1 hP hD hS => ?_)
        have hP : va_P D vwCl [(g, .inr (0, [.ref g0, .ref g1, .ref g2, .ref g3, .int (nI gn)])), (g0, .inl (cI, 400, .inl (G 0))), (g1, .inl (cI, 400, .inl (G 1))), (g2, .inl (cI, 400, .inl (G 2))), (g3, .inl (cI, 400, .inl (G 3))), (f, .inr (0, [.ref b0, .ref b1, .ref b2, .ref b3, .int (nI (i + 1))])), (b0, .inl (cI, 400, .inl (upd (E 0) i ((G 0) i)))), (b1, .inl (cI, 400, .inl (upd (E 1) i ((G 1) i)))), (b2, .inl (cI, 400, .inl (upd (E 2) i ((G 2) i)))), (b3, .inl (cI, 400, .inl (upd (E 3) i ((G 3) i))))] H := hP
        have hD : va_D A [(g, .inr (0, [.ref g0, .ref g1, .ref g2, .ref g3, .int (nI gn)])), (g0, .inl (cI, 400, .inl (G 0))), (g1, .inl (cI, 400, .inl (G 1))), (g2, .inl (cI, 400, .inl (G 2))), (g3, .inl (cI, 400, .inl (G 3))), (f, .inr (0, [.ref b0, .ref b1, .ref b2, .ref b3, .int (nI (i + 1))])), (b0, .inl (cI, 400, .inl (upd (E 0) i ((G 0) i)))), (b1, .inl (cI, 400, .inl (upd (E 1) i ((G 1) i)))), (b2, .inl (cI, 400, .inl (upd (E 2) i ((G 2) i)))), (b3, .inl (cI, 400, .inl (upd (E 3) i ((G 3) i))))] := hD
        refine lv_iinc (v := nI (i + 1)) (lv' := [(3, .int (nI (i + 1))), (0, .ref f), (1, .ref g), (2, .int (nI k))]) hx hb dX0_takeUpTo_48 hl (k := 3) rfl (nI_1 _) (by decide) rfl (fun ls hl => ?_)
        refine lv_goto (tgt := 7) hx hb dX0_takeUpTo_51 (by decide) ?_
        exact ih (i + 1) (es_row4 (upd (E 0) i ((G 0) i)) (upd (E 1) i ((G 1) i)) (upd (E 2) i ((G 2) i)) (upd (E 3) i ((G 3) i))) (by first | assumption | omega) (es_row_ext hj) (by omega) H locs (hP.sub [5, 6, 7, 8, 9, 0, 1, 2, 3, 4] rfl) (hD.sub [5, 6, 7, 8, 9, 0, 1, 2, 3, 4] (by decide) rfl) hS ls (lv_sub hl [1, 2, 3, 0] rfl)
set_option maxHeartbeats 1000000 in
set_option maxRecDepth 100000 in
/-- X0.takeUpTo  -/
theorem c_X0_takeUpTo (l : Launch) (D : va_G) (cI : ClassId) (sz : Nat) (f : Nat) (b0 : Nat) (b1 : Nat) (b2 : Nat) (b3 : Nat) (F : Nat → Nat → Int32) (n : Nat) (g : Nat) (g0 : Nat) (g1 : Nat) (g2 : Nat) (g3 : Nat) (G : Nat → Nat → Int32) (gn : Nat) (k : Nat) (hgn : gn ≤ 400) (hk : k ≤ gn) : Met l yX0_takeUpTo (Cond.code yX0_takeUpTo cX0_takeUpTo 4 none :: es_T) { frames := 1, cells := 0, slots := 0, locals := 24 } (va_Pc [.ref f, .ref g, .int (nI k)] (es_W D cI sz [(f, .inr (0, [.ref b0, .ref b1, .ref b2, .ref b3, .int (nI n)])), (b0, .inl (cI, 400, .inl (F 0))), (b1, .inl (cI, 400, .inl (F 1))), (b2, .inl (cI, 400, .inl (F 2))), (b3, .inl (cI, 400, .inl (F 3))), (g, .inr (0, [.ref g0, .ref g1, .ref g2, .ref g3, .int (nI gn)])), (g0, .inl (cI, 400, .inl (G 0))), (g1, .inl (cI, 400, .inl (G 1))), (g2, .inl (cI, 400, .inl (G 2))), (g3, .inl (cI, 400, .inl (G 3)))])) (va_Qv (fun u => ∀ a, a < 4 → ∀ j, j < k → u a j = G a j) (fun (u : Nat → Nat → Int32) zt => va_P D vwCl [(f, .inr (0, [.ref b0, .ref b1, .ref b2, .ref b3, .int (nI k)])), (b0, .inl (cI, 400, .inl (u 0))), (b1, .inl (cI, 400, .inl (u 1))), (b2, .inl (cI, 400, .inl (u 2))), (b3, .inl (cI, 400, .inl (u 3))), (g, .inr (0, [.ref g0, .ref g1, .ref g2, .ref g3, .int (nI gn)])), (g0, .inl (cI, 400, .inl (G 0))), (g1, .inl (cI, 400, .inl (G 1))), (g2, .inl (cI, 400, .inl (G 2))), (g3, .inl (cI, 400, .inl (G 3)))] zt.heap ∧ va_D (va_A [(f, .inr (0, [.ref b0, .ref b1, .ref b2, .ref b3, .int (nI n)])), (b0, .inl (cI, 400, .inl (F 0))), (b1, .inl (cI, 400, .inl (F 1))), (b2, .inl (cI, 400, .inl (F 2))), (b3, .inl (cI, 400, .inl (F 3))), (g, .inr (0, [.ref g0, .ref g1, .ref g2, .ref g3, .int (nI gn)])), (g0, .inl (cI, 400, .inl (G 0))), (g1, .inl (cI, 400, .inl (G 1))), (g2, .inl (cI, 400, .inl (G 2))), (g3, .inl (cI, 400, .inl (G 3)))] sz) [(f, .inr (0, [.ref b0, .ref b1, .ref b2, .ref b3, .int (nI k)])), (b0, .inl (cI, 400, .inl (u 0))), (b1, .inl (cI, 400, .inl (u 1))), (b2, .inl (cI, 400, .inl (u 2))), (b3, .inl (cI, 400, .inl (u 3))), (g, .inr (0, [.ref g0, .ref g1, .ref g2, .ref g3, .int (nI gn)])), (g0, .inl (cI, 400, .inl (G 0))), (g1, .inl (cI, 400, .inl (G 1))), (g2, .inl (cI, 400, .inl (G 2))), (g3, .inl (cI, 400, .inl (G 3)))]) (va_A [(f, .inr (0, [.ref b0, .ref b1, .ref b2, .ref b3, .int (nI n)])), (b0, .inl (cI, 400, .inl (F 0))), (b1, .inl (cI, 400, .inl (F 1))), (b2, .inl (cI, 400, .inl (F 2))), (b3, .inl (cI, 400, .inl (F 3))), (g, .inr (0, [.ref g0, .ref g1, .ref g2, .ref g3, .int (nI gn)])), (g0, .inl (cI, 400, .inl (G 0))), (g1, .inl (cI, 400, .inl (G 1))), (g2, .inl (cI, 400, .inl (G 2))), (g3, .inl (cI, 400, .inl (G 3)))] sz)) 0 0 (va_A [(f, .inr (0, [.ref b0, .ref b1, .ref b2, .ref b3, .int (nI n)])), (b0, .inl (cI, 400, .inl (F 0))), (b1, .inl (cI, 400, .inl (F 1))), (b2, .inl (cI, 400, .inl (F 2))), (b3, .inl (cI, 400, .inl (F 3))), (g, .inr (0, [.ref g0, .ref g1, .ref g2, .ref g3, .int (nI gn)])), (g0, .inl (cI, 400, .inl (G 0))), (g1, .inl (cI, 400, .inl (G 1))), (g2, .inl (cI, 400, .inl (G 2))), (g3, .inl (cI, 400, .inl (G 3)))] sz) := by
  refine Met.ofW (cc := cX0_takeUpTo) (maxL := 4) (ret := none) (by decide) rfl ?_
  intro p e s m args below meth c s₁ B hml hv
  obtain ⟨rfl, hsz, hP, hK, hD0⟩ := hv
  have hx := B.exec
  have hb := B.bytes
  have hr := B.returns
  have hts := atoms_spec (ws := (Cond.code yX0_takeUpTo cX0_takeUpTo 4 none :: es_T)) B.pre
  have hw : ∀ w ∈ es_T, w.before _ s = true := fun w h => hts w (List.mem_cons_of_mem _ h)
  have hown : s.vm.findClass RX0 = some m.cls := findClass_of_methodNamed B.named
  have hlocks := B.notSynchronized
  have hRm : 1 ≤ (headSpec (Cond.code yX0_takeUpTo cX0_takeUpTo 4 none :: es_T) { frames := 1, cells := 0, slots := 0, locals := 24 }).room.frames ∧ 24 ≤ (headSpec (Cond.code yX0_takeUpTo cX0_takeUpTo 4 none :: es_T) { frames := 1, cells := 0, slots := 0, locals := 24 }).room.locals := ⟨Nat.le_refl _, Nat.le_refl _⟩
  have hRc : 0 ≤ (headSpec (Cond.code yX0_takeUpTo cX0_takeUpTo 4 none :: es_T) { frames := 1, cells := 0, slots := 0, locals := 24 }).room.cells ∧ 0 ≤ (headSpec (Cond.code yX0_takeUpTo cX0_takeUpTo 4 none :: es_T) { frames := 1, cells := 0, slots := 0, locals := 24 }).room.slots := ⟨Nat.le_refl _, Nat.le_refl _⟩
  subst hsz
  have hD := hD0.self (sz := s.heap.size)
  generalize hAe : va_A [(f, .inr (0, [.ref b0, .ref b1, .ref b2, .ref b3, .int (nI n)])), (b0, .inl (cI, 400, .inl (F 0))), (b1, .inl (cI, 400, .inl (F 1))), (b2, .inl (cI, 400, .inl (F 2))), (b3, .inl (cI, 400, .inl (F 3))), (g, .inr (0, [.ref g0, .ref g1, .ref g2, .ref g3, .int (nI gn)])), (g0, .inl (cI, 400, .inl (G 0))), (g1, .inl (cI, 400, .inl (G 1))), (g2, .inl (cI, 400, .inl (G 2))), (g3, .inl (cI, 400, .inl (G 3)))] s.heap.size = A at hD ⊢
  have hA : ∀ q : Nat, s.heap.size ≤ q → A q := fun q h => by rw [← hAe]; exact Or.inr h
  have hS : va_S A s.heap s.heap [] := va_S.rf
  have hl := lv_entry ([.ref f, .ref g, .int (nI k)]) (n := 4) (Nat.le_of_ble_eq_true rfl)
  rw [lg_entry_eq]
  generalize (lg_sl ([.ref f, .ref g, .int (nI k)]) ++ List.replicate (4 - (lg_sl ([.ref f, .ref g, .int (nI k)])).length) Slot.unset).toArray = ls at hl ⊢
  have hl : lv_has ls 4 [(0, .ref f), (1, .ref g), (2, .int (nI k))] := hl
  refine lv_aload_n hx hb dX0_takeUpTo_0 rfl (lv_at hl 0 rfl) ?_
  refine lv_iconst (v := nI 0) hx hb dX0_takeUpTo_1 (by decide) ?_
  refine va_put (D := D) (ci := 0) (v := .int (nI 0)) (ty := .int) (C := RX0) (T := TX0) (N := 5) hx hb hw iwX0 tyX0 tyX0_ok nmX0 hown hK.1 hP hD hS 0 rfl rfl 4 (by decide) (hw _ xw_77) (fun _ h9 => h9) rfl (by decide +kernel) rfl rfl (Nat.le_of_ble_eq_true rfl) dX0_takeUpTo_2 (fun H locs hP hD hS => ?_)
  have hP : va_P D vwCl [(f, .inr (0, [.ref b0, .ref b1, .ref b2, .ref b3, .int (nI 0)])), (b0, .inl (cI, 400, .inl (F 0))), (b1, .inl (cI, 400, .inl (F 1))), (b2, .inl (cI, 400, .inl (F 2))), (b3, .inl (cI, 400, .inl (F 3))), (g, .inr (0, [.ref g0, .ref g1, .ref g2, .ref g3, .int (nI gn)])), (g0, .inl (cI, 400, .inl (G 0))), (g1, .inl (cI, 400, .inl (G 1))), (g2, .inl (cI, 400, .inl (G 2))), (g3, .inl (cI, 400, .inl (G 3)))] H := hP
  have hD : va_D A [(f, .inr (0, [.ref b0, .ref b1, .ref b2, .ref b3, .int (nI 0)])), (b0, .inl (cI, 400, .inl (F 0))), (b1, .inl (cI, 400, .inl (F 1))), (b2, .inl (cI, 400, .inl (F 2))), (b3, .inl (cI, 400, .inl (F 3))), (g, .inr (0, [.ref g0, .ref g1, .ref g2, .ref g3, .int (nI gn)])), (g0, .inl (cI, 400, .inl (G 0))), (g1, .inl (cI, 400, .inl (G 1))), (g2, .inl (cI, 400, .inl (G 2))), (g3, .inl (cI, 400, .inl (G 3)))] := hD
  refine lv_iconst (v := nI 0) hx hb dX0_takeUpTo_5 (by decide) ?_
  refine lv_istore_n (lv' := [(3, .int (nI 0)), (0, .ref f), (1, .ref g), (2, .int (nI k))]) hx hb dX0_takeUpTo_6 rfl hl (by decide) rfl (fun ls hl => ?_)
  refine lp_takeUpTo D cI f b0 b1 b2 b3 g g0 g1 g2 g3 G gn k hx hb hml hown hw hK ⟨Nat.le_trans (Nat.le_of_ble_eq_true rfl) hRm.1, Nat.le_trans (Nat.le_of_ble_eq_true rfl) hRm.2⟩ hA (by first | assumption | omega) (by first | assumption | omega) (fun i E hi hj H locs hP hD hS ls hl => ?_) ((k - 0) + 1) 0 F (by first | assumption | omega) (fun a ha j h => absurd h (Nat.not_lt_zero _)) (Nat.lt_succ_self _) H locs (hP.sub [0, 1, 2, 3, 4, 5, 6, 7, 8, 9] rfl) (hD.sub [0, 1, 2, 3, 4, 5, 6, 7, 8, 9] (by decide) rfl) hS ls (lv_sub hl [1, 2, 3, 0] rfl)
  subst hi
  exact W.vret hx hb hr (fun zt ht hW => ⟨⟨E, rfl, hj, ⟨by rw [ht]; exact hP.sub [0, 1, 2, 3, 4, 5, 6, 7, 8, 9] rfl, hD.sub [0, 1, 2, 3, 4, 5, 6, 7, 8, 9] (by decide) rfl⟩⟩, hS.F ht⟩) hS.2.2 dX0_takeUpTo_54
set_option maxHeartbeats 1000000 in
set_option maxRecDepth 100000 in
theorem lp_takeMoved {p : Program} {l : Launch} {e : Env} {R : Room} {s : State} {m : MethodId} {args : Array Value} {below : List Frame} {meth : Method} {c : Code} {Q : State → Prop} {A : Nat → Prop} {H0 : Heap} (D : va_G) (cI : ClassId) (f : Nat) (b0 : Nat) (b1 : Nat) (b2 : Nat) (b3 : Nat) (F : Nat → Nat → Int32) (n : Nat) (g : Nat) (g0 : Nat) (g1 : Nat) (g2 : Nat) (g3 : Nat) (G : Nat → Nat → Int32) (gn : Nat) (k : Nat) (x : Int32) (hx : p.tables.exec = Jvm.exec) (hb : c.code = cX0_takeMoved) (hml : c.maxLocals = 5) (hown : s.vm.findClass RX0 = some m.cls) (hw : ∀ w ∈ es_T, w.before args s = true) (hK : es_K D cI s) (hRm : 1 ≤ R.frames ∧ 24 ≤ R.locals) (hA : ∀ q : Nat, H0.size ≤ q → A q) (hgn : gn ≤ 400) (hk : k ≤ gn) (hs : n + (gn - k) ≤ 400) (hex : ∀ (i : Nat) (E : Nat → Nat → Int32), (i = gn - k) → (es_mvd F G E n k x i) → ∀ (H : Heap) (locs : List Loc), va_P D vwCl [(f, .inr (0, [.ref b0, .ref b1, .ref b2, .ref b3, .int (nI (n + i))])), (b0, .inl (cI, 400, .inl (E 0))), (b1, .inl (cI, 400, .inl (E 1))), (b2, .inl (cI, 400, .inl (E 2))), (b3, .inl (cI, 400, .inl (E 3))), (g, .inr (0, [.ref g0, .ref g1, .ref g2, .ref g3, .int (nI gn)])), (g0, .inl (cI, 400, .inl (G 0))), (g1, .inl (cI, 400, .inl (G 1))), (g2, .inl (cI, 400, .inl (G 2))), (g3, .inl (cI, 400, .inl (G 3)))] H → va_D A [(f, .inr (0, [.ref b0, .ref b1, .ref b2, .ref b3, .int (nI (n + i))])), (b0, .inl (cI, 400, .inl (E 0))), (b1, .inl (cI, 400, .inl (E 1))), (b2, .inl (cI, 400, .inl (E 2))), (b3, .inl (cI, 400, .inl (E 3))), (g, .inr (0, [.ref g0, .ref g1, .ref g2, .ref g3, .int (nI gn)])), (g0, .inl (cI, 400, .inl (G 0))), (g1, .inl (cI, 400, .inl (G 1))), (g2, .inl (cI, 400, .inl (G 2))), (g3, .inl (cI, 400, .inl (G 3)))] → va_S A H0 H locs → ∀ (ls : Array Slot), lv_has ls 5 [(0, .ref f), (4, .int (nI (k + i)))] →  W p l e R s m args below meth c H locs 0 0 Q (F0 m 56 ls [])) : ∀ (N : Nat) (i : Nat) (E : Nat → Nat → Int32), (i ≤ gn - k) → (es_mvd F G E n k x i) → (gn - k - i) < N → ∀ (H : Heap) (locs : List Loc), va_P D vwCl [(f, .inr (0, [.ref b0, .ref b1, .ref b2, .ref b3, .int (nI (n + i))])), (b0, .inl (cI, 400, .inl (E 0))), (b1, .inl (cI, 400, .inl (E 1))), (b2, .inl (cI, 400, .inl (E 2))), (b3, .inl (cI, 400, .inl (E 3))), (g, .inr (0, [.ref g0, .ref g1, .ref g2, .ref g3, .int (nI gn)])), (g0, .inl (cI, 400, .inl (G 0))), (g1, .inl (cI, 400, .inl (G 1))), (g2, .inl (cI, 400, .inl (G 2))), (g3, .inl (cI, 400, .inl (G 3)))] H → va_D A [(f, .inr (0, [.ref b0, .ref b1, .ref b2, .ref b3, .int (nI (n + i))])), (b0, .inl (cI, 400, .inl (E 0))), (b1, .inl (cI, 400, .inl (E 1))), (b2, .inl (cI, 400, .inl (E 2))), (b3, .inl (cI, 400, .inl (E 3))), (g, .inr (0, [.ref g0, .ref g1, .ref g2, .ref g3, .int (nI gn)])), (g0, .inl (cI, 400, .inl (G 0))), (g1, .inl (cI, 400, .inl (G 1))), (g2, .inl (cI, 400, .inl (G 2))), (g3, .inl (cI, 400, .inl (G 3)))] → va_S A H0 H locs → ∀ (ls : Array Slot), lv_has ls 5 [(0, .ref f), (1, .ref g), (3, .int x), (4, .int (nI (k + i)))] →  W p l e R s m args below meth c H locs 0 0 Q (F0 m 7 ls []) := by
  intro N
  induction N with
  | zero =>
    intro i E hi hj hN
    exact absurd hN (Nat.not_lt_zero _)
  | succ N ih =>
    intro i E hi hj hN H locs hP hD hS ls hl
    refine lv_iload hx hb dX0_takeMoved_7 (lv_at hl 3 rfl) ?_
    refine lv_aload_n hx hb dX0_takeMoved_9 rfl (lv_at hl 1 rfl) ?_
    refine va_get (D := D) (ci := 0) (v := .int (nI gn)) (C := RX0) (T := TX0) (N := 5) hx hb hw iwX0 hown hK.1 hP 5 rfl rfl 4 (by decide) (hw _ xw_77) (fun _ h9 => h9) rfl dX0_takeMoved_10 ?_
    refine lv_icmp_ge (tgt := 56) hx hb dX0_takeMoved_13 (by decide) (fun c_13 => ?_) (fun c_13 => ?_)
    ·
      have c_13 := (nI_leI (by omega) (by omega)).mp c_13
      exact hex i E (by omega) (by first | assumption | omega)  H locs (hP.sub [0, 1, 2, 3, 4, 5, 6, 7, 8, 9] rfl) (hD.sub [0, 1, 2, 3, 4, 5, 6, 7, 8, 9] (by decide) rfl) hS ls (lv_sub hl [0, 3] rfl)
    ·
      have c_13 := (mt (nI_leI (by omega) (by omega)).mpr c_13)
      refine lv_aload_n hx hb dX0_takeMoved_16 rfl (lv_at hl 0 rfl) ?_
      refine lv_aload_n hx hb dX0_takeMoved_17 rfl (lv_at hl 1 rfl) ?_
      refine va_get (D := D) (ci := 0) (v := .ref g0) (C := RX0) (T := TX0) (N := 5) hx hb hw iwX0 hown hK.1 hP 5 rfl rfl 0 (by decide) (hw _ xw_78) (fun _ h9 => h9) rfl dX0_takeMoved_18 ?_
      refine lv_iload hx hb dX0_takeMoved_21 (lv_at hl 3 rfl) ?_
      refine es_iald hx hb hK.1 hP 6 0 rfl rfl (by omega) (Nat.le_of_ble_eq_true rfl) dX0_takeMoved_23 ?_
      refine lv_iload_n hx hb dX0_takeMoved_24 rfl (lv_at hl 2 rfl) ?_
      refine lv_iadd hx hb dX0_takeMoved_25 ?_
      refine lv_aload_n hx hb dX0_takeMoved_26 rfl (lv_at hl 1 rfl) ?_
      refine va_get (D := D) (ci := 0) (v := .ref g1) (C := RX0) (T := TX0) (N := 5) hx hb hw iwX0 hown hK.1 hP 5 rfl rfl 1 (by decide) (hw _ xw_79) (fun _ h9 => h9) rfl dX0_takeMoved_27 ?_
      refine lv_iload hx hb dX0_takeMoved_30 (lv_at hl 3 rfl) ?_
      refine es_iald hx hb hK.1 hP 7 0 rfl rfl (by omega) (Nat.le_of_ble_eq_true rfl) dX0_takeMoved_32 ?_
      refine lv_aload_n hx hb dX0_takeMoved_33 rfl (lv_at hl 1 rfl) ?_
      refine va_get (D := D) (ci := 0) (v := .ref g2) (C := RX0) (T := TX0) (N := 5) hx hb hw iwX0 hown hK.1 hP 5 rfl rfl 2 (by decide) (hw _ xw_80) (fun _ h9 => h9) rfl dX0_takeMoved_34 ?_
      refine lv_iload hx hb dX0_takeMoved_37 (lv_at hl 3 rfl) ?_
      refine es_iald hx hb hK.1 hP 8 0 rfl rfl (by omega) (Nat.le_of_ble_eq_true rfl) dX0_takeMoved_39 ?_
      refine lv_aload_n hx hb dX0_takeMoved_40 rfl (lv_at hl 1 rfl) ?_
      refine va_get (D := D) (ci := 0) (v := .ref g3) (C := RX0) (T := TX0) (N := 5) hx hb hw iwX0 hown hK.1 hP 5 rfl rfl 3 (by decide) (hw _ xw_81) (fun _ h9 => h9) rfl dX0_takeMoved_41 ?_
      refine lv_iload hx hb dX0_takeMoved_44 (lv_at hl 3 rfl) ?_
      refine es_iald hx hb hK.1 hP 9 0 rfl rfl (by omega) (Nat.le_of_ble_eq_true rfl) dX0_takeMoved_46 ?_
      refine es_cv (wr := [(g, .inr (0, [.ref g0, .ref g1, .ref g2, .ref g3, .int (nI gn)])), (g0, .inl (cI, 400, .inl (G 0))), (g1, .inl (cI, 400, .inl (G 1))), (g2, .inl (cI, 400, .inl (G 2))), (g3, .inl (cI, 400, .inl (G 3)))]) (va_runV (As := [.int (((G 0) (k + i)) + x), .int ((G 1) (k + i)), .int ((G 2) (k + i)), .int ((G 3) (k + i))]) (rest := []) ⟨hx, hb, hml, hown, hw⟩ (c_X0_add l D cI H.size f b0 b1 b2 b3 E (n + i) (((G 0) (k + i)) + x) ((G 1) (k + i)) ((G 2) (k + i)) ((G 3) (k + i)) (by first | assumption | omega)) (cwV 4 hw (es_v xw_95 xw_96 xw_97 xw_98 xw_83) rfl rfl rfl kv_X0_add ⟨Nat.le_trans (Nat.le_of_ble_eq_true rfl) hRm.1, Nat.le_trans (Nat.le_of_ble_eq_true rfl) hRm.2⟩) (es_WV hK (hP.sub (ws' := [(f, .inr (0, [.ref b0, .ref b1, .ref b2, .ref b3, .int (nI (n + i))])), (b0, .inl (cI, 400, .inl (E 0))), (b1, .inl (cI, 400, .inl (E 1))), (b2, .inl (cI, 400, .inl (E 2))), (b3, .inl (cI, 400, .inl (E 3)))]) [0, 1, 2, 3, 4] rfl) (hD.sub (ws' := [(f, .inr (0, [.ref b0, .ref b1, .ref b2, .ref b3, .int (nI (n + i))])), (b0, .inl (cI, 400, .inl (E 0))), (b1, .inl (cI, 400, .inl (E 1))), (b2, .inl (cI, 400, .inl (E 2))), (b3, .inl (cI, 400, .inl (E 3)))]) [0, 1, 2, 3, 4] (by decide) rfl) rfl rfl) rfl rfl hl.1 rfl (lv_room (Nat.le_of_ble_eq_true rfl)) dX0_takeMoved_47 ⟨(Nat.zero_le _), (Nat.zero_le _)⟩) hP hD hS hA [0, 1, 2, 3, 4] [5, 6, 7, 8, 9] rfl rfl (by decide) (by decide) (fun u_1 H locs hu_1 hP hD hS => ?_)
      have hP : va_P D vwCl [(g, .inr (0, [.ref g0, .ref g1, .ref g2, .ref g3, .int (nI gn)])), (g0, .inl (cI, 400, .inl (G 0))), (g1, .inl (cI, 400, .inl (G 1))), (g2, .inl (cI, 400, .inl (G 2))), (g3, .inl (cI, 400, .inl (G 3))), (f, .inr (0, [.ref b0, .ref b1, .ref b2, .ref b3, .int (nI ((n + i) + 1))])), (b0, .inl (cI, 400, .inl (upd (E 0) (n + i) (((G 0) (k + i)) + x)))), (b1, .inl (cI, 400, .inl (upd (E 1) (n + i) ((G 1) (k + i))))), (b2, .inl (cI, 400, .inl (upd (E 2) (n + i) ((G 2) (k + i))))), (b3, .inl (cI, 400, .inl (upd (E 3) (n + i) ((G 3) (k + i)))))] H := hP
      have hD : va_D A [(g, .inr (0, [.ref g0, .ref g1, .ref g2, .ref g3, .int (nI gn)])), (g0, .inl (cI, 400, .inl (G 0))), (g1, .inl (cI, 400, .inl (G 1))), (g2, .inl (cI, 400, .inl (G 2))), (g3, .inl (cI, 400, .inl (G 3))), (f, .inr (0, [.ref b0, .ref b1, .ref b2, .ref b3, .int (nI ((n + i) + 1))])), (b0, .inl (cI, 400, .inl (upd (E 0) (n + i) (((G 0) (k + i)) + x)))), (b1, .inl (cI, 400, .inl (upd (E 1) (n + i) ((G 1) (k + i))))), (b2, .inl (cI, 400, .inl (upd (E 2) (n + i) ((G 2) (k + i))))), (b3, .inl (cI, 400, .inl (upd (E 3) (n + i) ((G 3) (k + i)))))] := hD
      refine lv_iinc (v := nI ((k + i) + 1)) (lv' := [(4, .int (nI ((k + i) + 1))), (0, .ref f), (1, .ref g), (3, .int x)]) hx hb dX0_takeMoved_50 hl (k := 3) rfl (nI_1 _) (by decide) rfl (fun ls hl => ?_)
      refine lv_goto (tgt := 7) hx hb dX0_takeMoved_53 (by decide) ?_
      exact ih (i + 1) (es_row4 (upd (E 0) (n + i) (((G 0) (k + i)) + x)) (upd (E 1) (n + i) ((G 1) (k + i))) (upd (E 2) (n + i) ((G 2) (k + i))) (upd (E 3) (n + i) ((G 3) (k + i)))) (by omega) (es_mvd_s hj) (by omega) H locs (hP.sub [5, 6, 7, 8, 9, 0, 1, 2, 3, 4] rfl) (hD.sub [5, 6, 7, 8, 9, 0, 1, 2, 3, 4] (by decide) rfl) hS ls (lv_sub hl [1, 2, 3, 0] rfl)
set_option maxHeartbeats 1000000 in
set_option maxRecDepth 100000 in
/-- X0.takeMoved  -/
theorem c_X0_takeMoved (l : Launch) (D : va_G) (cI : ClassId) (sz : Nat) (f : Nat) (b0 : Nat) (b1 : Nat) (b2 : Nat) (b3 : Nat) (F : Nat → Nat → Int32) (n : Nat) (g : Nat) (g0 : Nat) (g1 : Nat) (g2 : Nat) (g3 : Nat) (G : Nat → Nat → Int32) (gn : Nat) (k : Nat) (x : Int32) (hgn : gn ≤ 400) (hk : k ≤ gn) (hs : n + (gn - k) ≤ 400) : Met l yX0_takeMoved (Cond.code yX0_takeMoved cX0_takeMoved 5 none :: es_T) { frames := 1, cells := 0, slots := 0, locals := 24 } (va_Pc [.ref f, .ref g, .int (nI k), .int x] (es_W D cI sz [(f, .inr (0, [.ref b0, .ref b1, .ref b2, .ref b3, .int (nI n)])), (b0, .inl (cI, 400, .inl (F 0))), (b1, .inl (cI, 400, .inl (F 1))), (b2, .inl (cI, 400, .inl (F 2))), (b3, .inl (cI, 400, .inl (F 3))), (g, .inr (0, [.ref g0, .ref g1, .ref g2, .ref g3, .int (nI gn)])), (g0, .inl (cI, 400, .inl (G 0))), (g1, .inl (cI, 400, .inl (G 1))), (g2, .inl (cI, 400, .inl (G 2))), (g3, .inl (cI, 400, .inl (G 3)))])) (va_Qv (fun u => es_mvd F G u n k x (gn - k)) (fun (u : Nat → Nat → Int32) zt => va_P D vwCl [(f, .inr (0, [.ref b0, .ref b1, .ref b2, .ref b3, .int (nI (n + (gn - k)))])), (b0, .inl (cI, 400, .inl (u 0))), (b1, .inl (cI, 400, .inl (u 1))), (b2, .inl (cI, 400, .inl (u 2))), (b3, .inl (cI, 400, .inl (u 3))), (g, .inr (0, [.ref g0, .ref g1, .ref g2, .ref g3, .int (nI gn)])), (g0, .inl (cI, 400, .inl (G 0))), (g1, .inl (cI, 400, .inl (G 1))), (g2, .inl (cI, 400, .inl (G 2))), (g3, .inl (cI, 400, .inl (G 3)))] zt.heap ∧ va_D (va_A [(f, .inr (0, [.ref b0, .ref b1, .ref b2, .ref b3, .int (nI n)])), (b0, .inl (cI, 400, .inl (F 0))), (b1, .inl (cI, 400, .inl (F 1))), (b2, .inl (cI, 400, .inl (F 2))), (b3, .inl (cI, 400, .inl (F 3))), (g, .inr (0, [.ref g0, .ref g1, .ref g2, .ref g3, .int (nI gn)])), (g0, .inl (cI, 400, .inl (G 0))), (g1, .inl (cI, 400, .inl (G 1))), (g2, .inl (cI, 400, .inl (G 2))), (g3, .inl (cI, 400, .inl (G 3)))] sz) [(f, .inr (0, [.ref b0, .ref b1, .ref b2, .ref b3, .int (nI (n + (gn - k)))])), (b0, .inl (cI, 400, .inl (u 0))), (b1, .inl (cI, 400, .inl (u 1))), (b2, .inl (cI, 400, .inl (u 2))), (b3, .inl (cI, 400, .inl (u 3))), (g, .inr (0, [.ref g0, .ref g1, .ref g2, .ref g3, .int (nI gn)])), (g0, .inl (cI, 400, .inl (G 0))), (g1, .inl (cI, 400, .inl (G 1))), (g2, .inl (cI, 400, .inl (G 2))), (g3, .inl (cI, 400, .inl (G 3)))]) (va_A [(f, .inr (0, [.ref b0, .ref b1, .ref b2, .ref b3, .int (nI n)])), (b0, .inl (cI, 400, .inl (F 0))), (b1, .inl (cI, 400, .inl (F 1))), (b2, .inl (cI, 400, .inl (F 2))), (b3, .inl (cI, 400, .inl (F 3))), (g, .inr (0, [.ref g0, .ref g1, .ref g2, .ref g3, .int (nI gn)])), (g0, .inl (cI, 400, .inl (G 0))), (g1, .inl (cI, 400, .inl (G 1))), (g2, .inl (cI, 400, .inl (G 2))), (g3, .inl (cI, 400, .inl (G 3)))] sz)) 0 0 (va_A [(f, .inr (0, [.ref b0, .ref b1, .ref b2, .ref b3, .int (nI n)])), (b0, .inl (cI, 400, .inl (F 0))), (b1, .inl (cI, 400, .inl (F 1))), (b2, .inl (cI, 400, .inl (F 2))), (b3, .inl (cI, 400, .inl (F 3))), (g, .inr (0, [.ref g0, .ref g1, .ref g2, .ref g3, .int (nI gn)])), (g0, .inl (cI, 400, .inl (G 0))), (g1, .inl (cI, 400, .inl (G 1))), (g2, .inl (cI, 400, .inl (G 2))), (g3, .inl (cI, 400, .inl (G 3)))] sz) := by
  refine Met.ofW (cc := cX0_takeMoved) (maxL := 5) (ret := none) (by decide) rfl ?_
  intro p e s m args below meth c s₁ B hml hv
  obtain ⟨rfl, hsz, hP, hK, hD0⟩ := hv
  have hx := B.exec
  have hb := B.bytes
  have hr := B.returns
  have hts := atoms_spec (ws := (Cond.code yX0_takeMoved cX0_takeMoved 5 none :: es_T)) B.pre
  have hw : ∀ w ∈ es_T, w.before _ s = true := fun w h => hts w (List.mem_cons_of_mem _ h)
  have hown : s.vm.findClass RX0 = some m.cls := findClass_of_methodNamed B.named
  have hlocks := B.notSynchronized
  have hRm : 1 ≤ (headSpec (Cond.code yX0_takeMoved cX0_takeMoved 5 none :: es_T) { frames := 1, cells := 0, slots := 0, locals := 24 }).room.frames ∧ 24 ≤ (headSpec (Cond.code yX0_takeMoved cX0_takeMoved 5 none :: es_T) { frames := 1, cells := 0, slots := 0, locals := 24 }).room.locals := ⟨Nat.le_refl _, Nat.le_refl _⟩
  have hRc : 0 ≤ (headSpec (Cond.code yX0_takeMoved cX0_takeMoved 5 none :: es_T) { frames := 1, cells := 0, slots := 0, locals := 24 }).room.cells ∧ 0 ≤ (headSpec (Cond.code yX0_takeMoved cX0_takeMoved 5 none :: es_T) { frames := 1, cells := 0, slots := 0, locals := 24 }).room.slots := ⟨Nat.le_refl _, Nat.le_refl _⟩
  subst hsz
  have hD := hD0.self (sz := s.heap.size)
  generalize hAe : va_A [(f, .inr (0, [.ref b0, .ref b1, .ref b2, .ref b3, .int (nI n)])), (b0, .inl (cI, 400, .inl (F 0))), (b1, .inl (cI, 400, .inl (F 1))), (b2, .inl (cI, 400, .inl (F 2))), (b3, .inl (cI, 400, .inl (F 3))), (g, .inr (0, [.ref g0, .ref g1, .ref g2, .ref g3, .int (nI gn)])), (g0, .inl (cI, 400, .inl (G 0))), (g1, .inl (cI, 400, .inl (G 1))), (g2, .inl (cI, 400, .inl (G 2))), (g3, .inl (cI, 400, .inl (G 3)))] s.heap.size = A at hD ⊢
  have hA : ∀ q : Nat, s.heap.size ≤ q → A q := fun q h => by rw [← hAe]; exact Or.inr h
  have hS : va_S A s.heap s.heap [] := va_S.rf
  have hl := lv_entry ([.ref f, .ref g, .int (nI k), .int x]) (n := 5) (Nat.le_of_ble_eq_true rfl)
  rw [lg_entry_eq]
  generalize (lg_sl ([.ref f, .ref g, .int (nI k), .int x]) ++ List.replicate (5 - (lg_sl ([.ref f, .ref g, .int (nI k), .int x])).length) Slot.unset).toArray = ls at hl ⊢
  have hl : lv_has ls 5 [(0, .ref f), (1, .ref g), (2, .int (nI k)), (3, .int x)] := hl
  refine lv_iload_n hx hb dX0_takeMoved_0 rfl (lv_at hl 2 rfl) ?_
  refine lv_iconst (v := nI 0) hx hb dX0_takeMoved_1 (by decide) ?_
  refine va_mmax hx hb (by rw [hml]; exact hl.1.symm) hown (hw _ xw_87) (hw _ xw_88) (hw _ xw_89) (hw _ xw_90) (Nat.le_trans (Nat.le_of_ble_eq_true rfl) hRm.1) (Nat.le_trans (Nat.le_of_ble_eq_true rfl) hRm.2) (Nat.zero_le _) (Nat.zero_le _) dX0_takeMoved_2 ?_
  refine es_top (y := nI k) (if_neg (fun h => absurd h (nI_pos (by omega)))) ?_
  refine lv_istore (lv' := [(4, .int (nI k)), (0, .ref f), (1, .ref g), (2, .int (nI k)), (3, .int x)]) hx hb dX0_takeMoved_5 hl (by decide) rfl (fun ls hl => ?_)
  refine lp_takeMoved D cI f b0 b1 b2 b3 F n g g0 g1 g2 g3 G gn k x hx hb hml hown hw hK ⟨Nat.le_trans (Nat.le_of_ble_eq_true rfl) hRm.1, Nat.le_trans (Nat.le_of_ble_eq_true rfl) hRm.2⟩ hA (by first | assumption | omega) (by first | assumption | omega) (by first | assumption | omega) (fun i E hi hj H locs hP hD hS ls hl => ?_) ((gn - k - 0) + 1) 0 F (by first | assumption | omega) es_mvd_0 (Nat.lt_succ_self _) s.heap [] (hP.sub [0, 1, 2, 3, 4, 5, 6, 7, 8, 9] rfl) (hD.sub [0, 1, 2, 3, 4, 5, 6, 7, 8, 9] (by decide) rfl) hS ls (lv_sub hl [1, 2, 4, 0] rfl)
  subst hi
  exact W.vret hx hb hr (fun zt ht hW => ⟨⟨E, rfl, hj, ⟨by rw [ht]; exact hP.sub [0, 1, 2, 3, 4, 5, 6, 7, 8, 9] rfl, hD.sub [0, 1, 2, 3, 4, 5, 6, 7, 8, 9] (by decide) rfl⟩⟩, hS.F ht⟩) hS.2.2 dX0_takeMoved_56
set_option maxHeartbeats 1000000 in
set_option maxRecDepth 100000 in
/-- X0.init  -/
theorem c_X0_init (l : Launch) (D : va_G) (cI : ClassId) (sz : Nat) (f : Nat)  : Met l yX0_init (Cond.code yX0_init cX0_init 1 none :: es_T) { frames := 1, cells := 4, slots := 1600, locals := 20 } (va_Pc [.ref f] (es_W D cI sz [(f, .inr (0, [.null, .null, .null, .null, .int 0]))])) (va_Qv (fun _ => True) (fun (u : Nat × Nat × Nat × Nat) zt => va_P D vwCl [(f, .inr (0, [.ref u.1, .ref u.2.1, .ref u.2.2.1, .ref u.2.2.2, .int (nI 0)])), (u.1, .inl (cI, 400, .inl (fun _ => 0))), (u.2.1, .inl (cI, 400, .inl (fun _ => 0))), (u.2.2.1, .inl (cI, 400, .inl (fun _ => 0))), (u.2.2.2, .inl (cI, 400, .inl (fun _ => 0)))] zt.heap ∧ va_D (va_A [(f, .inr (0, [.null, .null, .null, .null, .int 0]))] sz) [(f, .inr (0, [.ref u.1, .ref u.2.1, .ref u.2.2.1, .ref u.2.2.2, .int (nI 0)])), (u.1, .inl (cI, 400, .inl (fun _ => 0))), (u.2.1, .inl (cI, 400, .inl (fun _ => 0))), (u.2.2.1, .inl (cI, 400, .inl (fun _ => 0))), (u.2.2.2, .inl (cI, 400, .inl (fun _ => 0)))]) (va_A [(f, .inr (0, [.null, .null, .null, .null, .int 0]))] sz)) 4 1600 (va_A [(f, .inr (0, [.null, .null, .null, .null, .int 0]))] sz) := by
  refine Met.ofW (cc := cX0_init) (maxL := 1) (ret := none) (by decide) rfl ?_
  intro p e s m args below meth c s₁ B hml hv
  obtain ⟨rfl, hsz, hP, hK, hD0⟩ := hv
  have hx := B.exec
  have hb := B.bytes
  have hr := B.returns
  have hts := atoms_spec (ws := (Cond.code yX0_init cX0_init 1 none :: es_T)) B.pre
  have hw : ∀ w ∈ es_T, w.before _ s = true := fun w h => hts w (List.mem_cons_of_mem _ h)
  have hown : s.vm.findClass RX0 = some m.cls := findClass_of_methodNamed B.named
  have hlocks := B.notSynchronized
  have hin : meth.name = "<init>" := (name_of_methodNamed B.named B.method).1
  have hRm : 1 ≤ (headSpec (Cond.code yX0_init cX0_init 1 none :: es_T) { frames := 1, cells := 4, slots := 1600, locals := 20 }).room.frames ∧ 20 ≤ (headSpec (Cond.code yX0_init cX0_init 1 none :: es_T) { frames := 1, cells := 4, slots := 1600, locals := 20 }).room.locals := ⟨Nat.le_refl _, Nat.le_refl _⟩
  have hRc : 4 ≤ (headSpec (Cond.code yX0_init cX0_init 1 none :: es_T) { frames := 1, cells := 4, slots := 1600, locals := 20 }).room.cells ∧ 1600 ≤ (headSpec (Cond.code yX0_init cX0_init 1 none :: es_T) { frames := 1, cells := 4, slots := 1600, locals := 20 }).room.slots := ⟨Nat.le_refl _, Nat.le_refl _⟩
  subst hsz
  have hD := hD0.self (sz := s.heap.size)
  generalize hAe : va_A [(f, .inr (0, [.null, .null, .null, .null, .int 0]))] s.heap.size = A at hD ⊢
  have hA : ∀ q : Nat, s.heap.size ≤ q → A q := fun q h => by rw [← hAe]; exact Or.inr h
  have hS : va_S A s.heap s.heap [] := va_S.rf
  have hl := lv_entry ([.ref f]) (n := 1) (Nat.le_of_ble_eq_true rfl)
  rw [lg_entry_eq]
  generalize (lg_sl ([.ref f]) ++ List.replicate (1 - (lg_sl ([.ref f])).length) Slot.unset).toArray = ls at hl ⊢
  have hl : lv_has ls 1 [(0, .ref f)] := hl
  refine lv_aload_n hx hb dX0_init_0 rfl (lv_at hl 0 rfl) ?_
  refine W.objInit hx hb hown (hw _ xw_91) (hw _ xw_92) (hw _ xw_93) rfl (by rw [hml]; exact hl.1) rfl dX0_init_1 (Nat.le_trans (Nat.le_of_ble_eq_true rfl) hRm.1) (Nat.le_trans (Nat.le_of_ble_eq_true rfl) hRm.2) ?_
  refine W.eq (g2 := F0 m 4 ls []) rfl ?_
  refine lv_aload_n hx hb dX0_init_4 rfl (lv_at hl 0 rfl) ?_
  refine lv_sipush (v := nI 400) hx hb dX0_init_5 (by decide) ?_
  refine es_newa hx hb (hw _ xw_94) hK.1 hP hD hS hA (N' := 400) (by decide) (by decide) (Nat.le_trans (Nat.le_of_ble_eq_true rfl) hRc.1) (Nat.le_trans (Nat.le_of_ble_eq_true rfl) hRc.2) (by decide) dX0_init_8 (fun q_1 H hP hD hS => ?_)
  have hP : va_P D vwCl [(f, .inr (0, [.null, .null, .null, .null, .int 0])), (q_1, .inl (cI, 400, .inl (fun _ => 0)))] H := hP
  have hD : va_D A [(f, .inr (0, [.null, .null, .null, .null, .int 0])), (q_1, .inl (cI, 400, .inl (fun _ => 0)))] := hD
  refine W.widen (k := 1) (n := 400) (Nat.le_of_ble_eq_true rfl) (Nat.le_of_ble_eq_true rfl) ?_
  refine va_putF (D := D) (ci := 0) (v := .ref q_1) (ty := (.array .int)) (C := RX0) (T := TX0) (N := 5) hx hb hw iwX0 tyX0 tyX0_ok nmX0 hown hK.1 hP hD hS 0 rfl rfl 0 (by decide) (hw _ xw_78) (fun _ h9 => h9) rfl hin rfl (by decide +kernel) rfl rfl (Nat.le_of_ble_eq_true rfl) dX0_init_10 (fun H locs hP hD hS => ?_)
  have hP : va_P D vwCl [(f, .inr (0, [.ref q_1, .null, .null, .null, .int 0])), (q_1, .inl (cI, 400, .inl (fun _ => 0)))] H := hP
  have hD : va_D A [(f, .inr (0, [.ref q_1, .null, .null, .null, .int 0])), (q_1, .inl (cI, 400, .inl (fun _ => 0)))] := hD
  refine lv_aload_n hx hb dX0_init_13 rfl (lv_at hl 0 rfl) ?_
  refine lv_sipush (v := nI 400) hx hb dX0_init_14 (by decide) ?_
  refine es_newa hx hb (hw _ xw_94) hK.1 hP hD hS hA (N' := 400) (by decide) (by decide) (Nat.le_trans (Nat.le_of_ble_eq_true rfl) hRc.1) (Nat.le_trans (Nat.le_of_ble_eq_true rfl) hRc.2) (by decide) dX0_init_17 (fun q_2 H hP hD hS => ?_)
  have hP : va_P D vwCl [(f, .inr (0, [.ref q_1, .null, .null, .null, .int 0])), (q_1, .inl (cI, 400, .inl (fun _ => 0))), (q_2, .inl (cI, 400, .inl (fun _ => 0)))] H := hP
  have hD : va_D A [(f, .inr (0, [.ref q_1, .null, .null, .null, .int 0])), (q_1, .inl (cI, 400, .inl (fun _ => 0))), (q_2, .inl (cI, 400, .inl (fun _ => 0)))] := hD
  refine W.widen (k := 2) (n := 800) (Nat.le_of_ble_eq_true rfl) (Nat.le_of_ble_eq_true rfl) ?_
  refine va_putF (D := D) (ci := 0) (v := .ref q_2) (ty := (.array .int)) (C := RX0) (T := TX0) (N := 5) hx hb hw iwX0 tyX0 tyX0_ok nmX0 hown hK.1 hP hD hS 0 rfl rfl 1 (by decide) (hw _ xw_79) (fun _ h9 => h9) rfl hin rfl (by decide +kernel) rfl rfl (Nat.le_of_ble_eq_true rfl) dX0_init_19 (fun H locs hP hD hS => ?_)
  have hP : va_P D vwCl [(f, .inr (0, [.ref q_1, .ref q_2, .null, .null, .int 0])), (q_1, .inl (cI, 400, .inl (fun _ => 0))), (q_2, .inl (cI, 400, .inl (fun _ => 0)))] H := hP
  have hD : va_D A [(f, .inr (0, [.ref q_1, .ref q_2, .null, .null, .int 0])), (q_1, .inl (cI, 400, .inl (fun _ => 0))), (q_2, .inl (cI, 400, .inl (fun _ => 0)))] := hD
  refine lv_aload_n hx hb dX0_init_22 rfl (lv_at hl 0 rfl) ?_
  refine lv_sipush (v := nI 400) hx hb dX0_init_23 (by decide) ?_
  refine es_newa hx hb (hw _ xw_94) hK.1 hP hD hS hA (N' := 400) (by decide) (by decide) (Nat.le_trans (Nat.le_of_ble_eq_true rfl) hRc.1) (Nat.le_trans (Nat.le_of_ble_eq_true rfl) hRc.2) (by decide) dX0_init_26 (fun q_3 H hP hD hS => ?_)
  have hP : va_P D vwCl [(f, .inr (0, [.ref q_1, .ref q_2, .null, .null, .int 0])), (q_1, .inl (cI, 400, .inl (fun _ => 0))), (q_2, .inl (cI, 400, .inl (fun _ => 0))), (q_3, .inl (cI, 400, .inl (fun _ => 0)))] H := hP
  have hD : va_D A [(f, .inr (0, [.ref q_1, .ref q_2, .null, .null, .int 0])), (q_1, .inl (cI, 400, .inl (fun _ => 0))), (q_2, .inl (cI, 400, .inl (fun _ => 0))), (q_3, .inl (cI, 400, .inl (fun _ => 0)))] := hD
  refine W.widen (k := 3) (n := 1200) (Nat.le_of_ble_eq_true rfl) (Nat.le_of_ble_eq_true rfl) ?_
  refine va_putF (D := D) (ci := 0) (v := .ref q_3) (ty := (.array .int)) (C := RX0) (T := TX0) (N := 5) hx hb hw iwX0 tyX0 tyX0_ok nmX0 hown hK.1 hP hD hS 0 rfl rfl 2 (by decide) (hw _ xw_80) (fun _ h9 => h9) rfl hin rfl (by decide +kernel) rfl rfl (Nat.le_of_ble_eq_true rfl) dX0_init_28 (fun H locs hP hD hS => ?_)
  have hP : va_P D vwCl [(f, .inr (0, [.ref q_1, .ref q_2, .ref q_3, .null, .int 0])), (q_1, .inl (cI, 400, .inl (fun _ => 0))), (q_2, .inl (cI, 400, .inl (fun _ => 0))), (q_3, .inl (cI, 400, .inl (fun _ => 0)))] H := hP
  have hD : va_D A [(f, .inr (0, [.ref q_1, .ref q_2, .ref q_3, .null, .int 0])), (q_1, .inl (cI, 400, .inl (fun _ => 0))), (q_2, .inl (cI, 400, .inl (fun _ => 0))), (q_3, .inl (cI, 400, .inl (fun _ => 0)))] := hD
  refine lv_aload_n hx hb dX0_init_31 rfl (lv_at hl 0 rfl) ?_
  refine lv_sipush (v := nI 400) hx hb dX0_init_32 (by decide) ?_
  refine es_newa hx hb (hw _ xw_94) hK.1 hP hD hS hA (N' := 400) (by decide) (by decide) (Nat.le_trans (Nat.le_of_ble_eq_true rfl) hRc.1) (Nat.le_trans (Nat.le_of_ble_eq_true rfl) hRc.2) (by decide) dX0_init_35 (fun q_4 H hP hD hS => ?_)
  have hP : va_P D vwCl [(f, .inr (0, [.ref q_1, .ref q_2, .ref q_3, .null, .int 0])), (q_1, .inl (cI, 400, .inl (fun _ => 0))), (q_2, .inl (cI, 400, .inl (fun _ => 0))), (q_3, .inl (cI, 400, .inl (fun _ => 0))), (q_4, .inl (cI, 400, .inl (fun _ => 0)))] H := hP
  have hD : va_D A [(f, .inr (0, [.ref q_1, .ref q_2, .ref q_3, .null, .int 0])), (q_1, .inl (cI, 400, .inl (fun _ => 0))), (q_2, .inl (cI, 400, .inl (fun _ => 0))), (q_3, .inl (cI, 400, .inl (fun _ => 0))), (q_4, .inl (cI, 400, .inl (fun _ => 0)))] := hD
  refine W.widen (k := 4) (n := 1600) (Nat.le_of_ble_eq_true rfl) (Nat.le_of_ble_eq_true rfl) ?_
  refine va_putF (D := D) (ci := 0) (v := .ref q_4) (ty := (.array .int)) (C := RX0) (T := TX0) (N := 5) hx hb hw iwX0 tyX0 tyX0_ok nmX0 hown hK.1 hP hD hS 0 rfl rfl 3 (by decide) (hw _ xw_81) (fun _ h9 => h9) rfl hin rfl (by decide +kernel) rfl rfl (Nat.le_of_ble_eq_true rfl) dX0_init_37 (fun H locs hP hD hS => ?_)
  have hP : va_P D vwCl [(f, .inr (0, [.ref q_1, .ref q_2, .ref q_3, .ref q_4, .int 0])), (q_1, .inl (cI, 400, .inl (fun _ => 0))), (q_2, .inl (cI, 400, .inl (fun _ => 0))), (q_3, .inl (cI, 400, .inl (fun _ => 0))), (q_4, .inl (cI, 400, .inl (fun _ => 0)))] H := hP
  have hD : va_D A [(f, .inr (0, [.ref q_1, .ref q_2, .ref q_3, .ref q_4, .int 0])), (q_1, .inl (cI, 400, .inl (fun _ => 0))), (q_2, .inl (cI, 400, .inl (fun _ => 0))), (q_3, .inl (cI, 400, .inl (fun _ => 0))), (q_4, .inl (cI, 400, .inl (fun _ => 0)))] := hD
  refine W.widen (k := 4) (n := 1600) (Nat.le_of_ble_eq_true rfl) (Nat.le_of_ble_eq_true rfl) ?_
  exact W.vret hx hb hr (fun zt ht hW => ⟨⟨(q_1, q_2, q_3, q_4), rfl, trivial, ⟨by rw [ht]; exact hP.sub [0, 1, 2, 3, 4] rfl, hD.sub [0, 1, 2, 3, 4] (by decide) rfl⟩⟩, hS.F ht⟩) hS.2.2 dX0_init_40
