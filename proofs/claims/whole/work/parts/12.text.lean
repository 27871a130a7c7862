abbrev es_okA (x y z : Int32) : Prop := (0 ≤ x ∧ x < nI 20) ∧ (0 ≤ y ∧ y < nI 10) ∧ (z = -1 ∨ (0 ≤ z ∧ z < nI 20))
abbrev es_okK (x y : Int32) : Prop := (0 ≤ x ∧ x < nI 20) ∧ (-1 ≤ y ∧ y < nI 100)
def uN (x : Int64) : Nat := x.toUInt64.toNat
theorem uN_shr (x : Int64) (s : UInt64) : uN (x.toUInt64 >>> s).toInt64 = uN x / 2 ^ (s.toNat % 64) := by
  show (x.toUInt64 >>> s).toNat = _
  rw [UInt64.toNat_shiftRight, Nat.shiftRight_eq_div_pow]
  rfl
theorem uN_sk (x : Int64) {k : Nat} (hk : k < 64) : uN (x.toUInt64 >>> ((nI k).toInt64.toUInt64 &&& Int64.toUInt64 63)).toInt64 = uN x / 2 ^ k := by
  have h : ((nI k).toInt64.toUInt64 &&& Int64.toUInt64 63).toNat % 64 = k := by
    rw [nI_l (by omega), UInt64.toNat_and]
    have e : (lN k).toUInt64.toNat = k % 2 ^ 64 := rfl
    have e2 : (Int64.toUInt64 63).toNat = 2 ^ 6 - 1 := by decide
    rw [e, e2, Nat.and_two_pow_sub_one_eq_mod]
    omega
  rw [uN_shr, h]
theorem es_dg_lt (sy : Int64) (k : Nat) : es_dg sy k < 16 := Nat.mod_lt _ (by decide)
theorem es_unp {sy : Int64} {k : Nat} (hk : k ≤ 15) : ((sy.toUInt64 >>> ((nI (4 * k)).toInt64.toUInt64 &&& Int64.toUInt64 63)).toInt64).toInt32 &&& nI 15 = nI (es_dg sy k) := by
  have h1 := uN_sk sy (k := 4 * k) (by omega)
  generalize (sy.toUInt64 >>> ((nI (4 * k)).toInt64.toUInt64 &&& Int64.toUInt64 63)).toInt64 = w at h1 ⊢
  rw [pk_and w.toInt32 4 (by decide)]
  have h2 : w.toInt32.toBitVec.toNat = uN w % 2 ^ 32 := by
    show (w.toBitVec.signExtend 32).toNat = _
    rw [BitVec.signExtend_eq_setWidth_of_le _ (by decide), BitVec.toNat_setWidth]
    rfl
  rw [h2, h1]
  unfold es_dg
  have e : uN sy = sy.toBitVec.toNat := rfl
  rw [e]
  congr 1
  omega
/-- the row behind an edit -/
def es_rep (tx u : Nat → Int32) (n pl ou : Nat) (sy : Int64) (cn : Nat) : Prop := (∀ j, j < pl → u j = tx j) ∧ (∀ j, j < cn → u (pl + j) = nI (es_dg sy (cn - 1 - j))) ∧ ∀ j, pl + ou ≤ j → j < n → u (j - ou + cn) = tx j
def es_rpi (cp E : Nat → Int32) (pl : Nat) (sy : Int64) (cn i : Nat) : Prop := (∀ j, (j < pl ∨ pl + cn ≤ j) → E j = cp j) ∧ ∀ j, j < i → E (pl + j) = nI (es_dg sy (cn - 1 - j))
theorem es_rpi_0 {cp : Nat → Int32} {pl : Nat} {sy : Int64} {cn : Nat} : es_rpi cp cp pl sy cn 0 := ⟨fun _ _ => rfl, fun _ h => absurd h (Nat.not_lt_zero _)⟩
theorem es_rpi_s {cp E : Nat → Int32} {pl : Nat} {sy : Int64} {cn i : Nat} (h : es_rpi cp E pl sy cn i) (hi : i < cn) : es_rpi cp (upd E (pl + i) (nI (es_dg sy (cn - 1 - i)))) pl sy cn (i + 1) := by
  refine ⟨fun j hj => (pk_un (by omega)).trans (h.1 j hj), fun j hj => ?_⟩
  by_cases e : j = i
  · rw [e]; exact pk_us
  · exact (pk_un (by omega)).trans (h.2 j (by omega))
theorem es_rep_of {tx E : Nat → Int32} {n pl ou : Nat} {sy : Int64} {cn : Nat} (h1 : pl + ou ≤ n) (h3 : n - ou + cn ≤ 400) (h : es_rpi (va_cpy tx tx (pl + ou) (pl + cn) (n - pl - ou)) E pl sy cn cn) : es_rep tx E n pl ou sy cn := by
  refine ⟨fun j hj => ?_, h.2, fun j hj hj2 => ?_⟩
  · rw [h.1 j (Or.inl hj), pk_cpy_out (by omega)]
  · rw [h.1 _ (Or.inr (by omega)), pk_cpy_in (by omega) (by omega)]
    congr 1
    omega

set_option maxHeartbeats 1000000 in
set_option maxRecDepth 100000 in
/-- X1.setArrow  -/
theorem c_X1_setArrow (l : Launch) (D : va_G) (cI : ClassId) (sz : Nat) (tb : Nat) (a : Nat) (k : Nat) (ar : Nat → Int32) (ki : Nat → Int32) (x : Int32) (y : Int32) (z : Int32)  : Met l yX1_setArrow (Cond.code yX1_setArrow cX1_setArrow 4 (some .boolean) :: es_T) { frames := 1, cells := 0, slots := 0, locals := 20 } (va_Pc [.ref tb, .int x, .int y, .int z] (es_W D cI sz [(tb, .inr (1, [.ref a, .ref k])), (a, .inl (cI, 200, .inl ar)), (k, .inl (cI, 20, .inl ki))])) (va_Qi (fun r u => (r = nI 1 ∧ es_okA x y z ∧ u = upd ar (10 * x.toNatClampNeg + y.toNatClampNeg) z) ∨ (r = nI 0 ∧ ¬ es_okA x y z ∧ u = ar)) (fun (u : Nat → Int32) zt => va_P D vwCl [(tb, .inr (1, [.ref a, .ref k])), (a, .inl (cI, 200, .inl u)), (k, .inl (cI, 20, .inl ki))] zt.heap ∧ va_D (va_A [(tb, .inr (1, [.ref a, .ref k])), (a, .inl (cI, 200, .inl ar)), (k, .inl (cI, 20, .inl ki))] sz) [(tb, .inr (1, [.ref a, .ref k])), (a, .inl (cI, 200, .inl u)), (k, .inl (cI, 20, .inl ki))]) (va_A [(tb, .inr (1, [.ref a, .ref k])), (a, .inl (cI, 200, .inl ar)), (k, .inl (cI, 20, .inl ki))] sz)) 0 0 (va_A [(tb, .inr (1, [.ref a, .ref k])), (a, .inl (cI, 200, .inl ar)), (k, .inl (cI, 20, .inl ki))] sz) := by
  refine Met.ofW (cc := cX1_setArrow) (maxL := 4) (ret := (some .boolean)) (by decide) rfl ?_
  intro p e s m args below meth c s₁ B hml hv
  obtain ⟨rfl, hsz, hP, hK, hD0⟩ := hv
  have hx := B.exec
  have hb := B.bytes
  have hr := B.returns
  have hts := atoms_spec (ws := (Cond.code yX1_setArrow cX1_setArrow 4 (some .boolean) :: es_T)) B.pre
  have hw : ∀ w ∈ es_T, w.before _ s = true := fun w h => hts w (List.mem_cons_of_mem _ h)
  have hown : s.vm.findClass RX1 = some m.cls := findClass_of_methodNamed B.named
  have hlocks := B.notSynchronized
  have hRm : 1 ≤ (headSpec (Cond.code yX1_setArrow cX1_setArrow 4 (some .boolean) :: es_T) { frames := 1, cells := 0, slots := 0, locals := 20 }).room.frames ∧ 20 ≤ (headSpec (Cond.code yX1_setArrow cX1_setArrow 4 (some .boolean) :: es_T) { frames := 1, cells := 0, slots := 0, locals := 20 }).room.locals := ⟨Nat.le_refl _, Nat.le_refl _⟩
  have hRc : 0 ≤ (headSpec (Cond.code yX1_setArrow cX1_setArrow 4 (some .boolean) :: es_T) { frames := 1, cells := 0, slots := 0, locals := 20 }).room.cells ∧ 0 ≤ (headSpec (Cond.code yX1_setArrow cX1_setArrow 4 (some .boolean) :: es_T) { frames := 1, cells := 0, slots := 0, locals := 20 }).room.slots := ⟨Nat.le_refl _, Nat.le_refl _⟩
  subst hsz
  have hD := hD0.self (sz := s.heap.size)
  generalize hAe : va_A [(tb, .inr (1, [.ref a, .ref k])), (a, .inl (cI, 200, .inl ar)), (k, .inl (cI, 20, .inl ki))] s.heap.size = A at hD ⊢
  have hA : ∀ q : Nat, s.heap.size ≤ q → A q := fun q h => by rw [← hAe]; exact Or.inr h
  have hS : va_S A s.heap s.heap [] := va_S.rf
  have hl := lv_entry ([.ref tb, .int x, .int y, .int z]) (n := 4) (Nat.le_of_ble_eq_true rfl)
  rw [lg_entry_eq]
  generalize (lg_sl ([.ref tb, .int x, .int y, .int z]) ++ List.replicate (4 - (lg_sl ([.ref tb, .int x, .int y, .int z])).length) Slot.unset).toArray = ls at hl ⊢
  have hl : lv_has ls 4 [(0, .ref tb), (1, .int x), (2, .int y), (3, .int z)] := hl
  refine lv_iload_n hx hb dX1_setArrow_0 rfl (lv_at hl 1 rfl) ?_
  refine vp_callSi (va_Run.run (va_runS (As := [.int x]) (rest := []) ⟨hx, hb, hml, hown, hw⟩ (c_X1_isState l D cI x ) (cwS 1 hw (es_s xw_115 xw_116 xw_117 xw_111) rfl rfl rfl kv_X1_isState ⟨Nat.le_trans (Nat.le_of_ble_eq_true rfl) hRm.1, Nat.le_trans (Nat.le_of_ble_eq_true rfl) hRm.2⟩) (es_RS hK (hP.sub (ws' := []) [] rfl)) rfl rfl hl.1 rfl (lv_room (Nat.le_of_ble_eq_true rfl)) dX1_setArrow_1 ⟨(Nat.zero_le _), (Nat.zero_le _)⟩)) (fun r_1 er_1 => ?_)
  obtain rfl : r_1 = if 0 ≤ x ∧ x < nI 20 then (1 : Int32) else 0 := er_1
  refine lv_if_eq (tgt := 26) hx hb dX1_setArrow_4 (by decide) (fun c_4 => ?_) (fun c_4 => ?_)
  ·
    have c_4 := es_if0 c_4
    refine lv_iconst (v := nI 0) hx hb dX1_setArrow_26 (by decide) ?_
    exact W.zret (v := nI 0) hx hb hr rfl (fun zt ht hW => ⟨⟨_, ar, rfl, Or.inr ⟨rfl, (fun h => by first | exact absurd h.1 c_4 | exact absurd h.2.1 c_11 | exact h.2.2.elim c_16 c_23), rfl⟩, ⟨by rw [ht]; exact hP.sub [0, 1, 2] rfl, hD.sub [0, 1, 2] (by decide) rfl⟩⟩, hS.F ht⟩) hS.2.2 dX1_setArrow_27
  ·
    have c_4 := es_if1 c_4
    refine lv_iload_n hx hb dX1_setArrow_7 rfl (lv_at hl 2 rfl) ?_
    refine vp_callSi (va_Run.run (va_runS (As := [.int y]) (rest := []) ⟨hx, hb, hml, hown, hw⟩ (c_X1_isSymbol l D cI y ) (cwS 1 hw (es_s xw_118 xw_119 xw_120 xw_111) rfl rfl rfl kv_X1_isSymbol ⟨Nat.le_trans (Nat.le_of_ble_eq_true rfl) hRm.1, Nat.le_trans (Nat.le_of_ble_eq_true rfl) hRm.2⟩) (es_RS hK (hP.sub (ws' := []) [] rfl)) rfl rfl hl.1 rfl (lv_room (Nat.le_of_ble_eq_true rfl)) dX1_setArrow_8 ⟨(Nat.zero_le _), (Nat.zero_le _)⟩)) (fun r_2 er_2 => ?_)
    obtain rfl : r_2 = if 0 ≤ y ∧ y < nI 10 then (1 : Int32) else 0 := er_2
    refine lv_if_eq (tgt := 26) hx hb dX1_setArrow_11 (by decide) (fun c_11 => ?_) (fun c_11 => ?_)
    ·
      have c_11 := es_if0 c_11
      refine lv_iconst (v := nI 0) hx hb dX1_setArrow_26 (by decide) ?_
      exact W.zret (v := nI 0) hx hb hr rfl (fun zt ht hW => ⟨⟨_, ar, rfl, Or.inr ⟨rfl, (fun h => by first | exact absurd h.1 c_4 | exact absurd h.2.1 c_11 | exact h.2.2.elim c_16 c_23), rfl⟩, ⟨by rw [ht]; exact hP.sub [0, 1, 2] rfl, hD.sub [0, 1, 2] (by decide) rfl⟩⟩, hS.F ht⟩) hS.2.2 dX1_setArrow_27
    ·
      have c_11 := es_if1 c_11
      refine lv_iload_n hx hb dX1_setArrow_14 rfl (lv_at hl 3 rfl) ?_
      refine lv_iconst (v := (-1)) hx hb dX1_setArrow_15 (by decide) ?_
      refine lv_icmp_eq (tgt := 28) hx hb dX1_setArrow_16 (by decide) (fun c_16 => ?_) (fun c_16 => ?_)
      ·
        obtain ⟨x0, hx0, rfl⟩ := es_nat c_4.1 c_4.2 (by decide)
        obtain ⟨y0, hy0, rfl⟩ := es_nat c_11.1 c_11.2 (by decide)
        refine lv_aload_n hx hb dX1_setArrow_28 rfl (lv_at hl 0 rfl) ?_
        refine va_get (D := D) (ci := 1) (v := .ref a) (C := RX1) (T := TX1) (N := 2) hx hb hw iwX1 hown hK.1 hP 0 rfl rfl 0 (by decide) (hw _ xw_103) (fun _ h9 => h9) rfl dX1_setArrow_29 ?_
        refine lv_iload_n hx hb dX1_setArrow_32 rfl (lv_at hl 1 rfl) ?_
        refine lv_bipush (v := nI 10) hx hb dX1_setArrow_33 (by decide) ?_
        refine lv_imul hx hb dX1_setArrow_35 ?_
        refine es_top (y := nI (x0 * 10)) (pk_mul _ _) ?_
        refine lv_iload_n hx hb dX1_setArrow_36 rfl (lv_at hl 2 rfl) ?_
        refine lv_iadd hx hb dX1_setArrow_37 ?_
        refine es_top (y := nI ((x0 * 10) + y0)) (nI_add _ _) ?_
        refine lv_iload_n hx hb dX1_setArrow_38 rfl (lv_at hl 3 rfl) ?_
        refine es_iast hx hb hK.1 hP hD hS 1 0 rfl rfl (by omega) (Nat.le_of_ble_eq_true rfl) dX1_setArrow_39 (fun H locs hP hD hS => ?_)
        have hP : va_P D vwCl [(tb, .inr (1, [.ref a, .ref k])), (a, .inl (cI, 200, .inl (upd ar ((x0 * 10) + y0) z))), (k, .inl (cI, 20, .inl ki))] H := hP
        have hD : va_D A [(tb, .inr (1, [.ref a, .ref k])), (a, .inl (cI, 200, .inl (upd ar ((x0 * 10) + y0) z))), (k, .inl (cI, 20, .inl ki))] := hD
        refine lv_iconst (v := nI 1) hx hb dX1_setArrow_40 (by decide) ?_
        exact W.zret (v := nI 1) hx hb hr rfl (fun zt ht hW => ⟨⟨_, (upd ar (x0 * 10 + y0) z), rfl, Or.inl ⟨rfl, ⟨c_4, c_11, (by first | exact Or.inl c_16 | exact Or.inr c_23)⟩, (by rw [nI_clamp (by omega), nI_clamp (by omega), Nat.mul_comm])⟩, ⟨by rw [ht]; exact hP.sub [0, 1, 2] rfl, hD.sub [0, 1, 2] (by decide) rfl⟩⟩, hS.F ht⟩) hS.2.2 dX1_setArrow_41
      ·
        refine lv_iload_n hx hb dX1_setArrow_19 rfl (lv_at hl 3 rfl) ?_
        refine vp_callSi (va_Run.run (va_runS (As := [.int z]) (rest := []) ⟨hx, hb, hml, hown, hw⟩ (c_X1_isState l D cI z ) (cwS 1 hw (es_s xw_115 xw_116 xw_117 xw_111) rfl rfl rfl kv_X1_isState ⟨Nat.le_trans (Nat.le_of_ble_eq_true rfl) hRm.1, Nat.le_trans (Nat.le_of_ble_eq_true rfl) hRm.2⟩) (es_RS hK (hP.sub (ws' := []) [] rfl)) rfl rfl hl.1 rfl (lv_room (Nat.le_of_ble_eq_true rfl)) dX1_setArrow_20 ⟨(Nat.zero_le _), (Nat.zero_le _)⟩)) (fun r_3 er_3 => ?_)
        obtain rfl : r_3 = if 0 ≤ z ∧ z < nI 20 then (1 : Int32) else 0 := er_3
        refine lv_if_ne (tgt := 28) hx hb dX1_setArrow_23 (by decide) (fun c_23 => ?_) (fun c_23 => ?_)
        ·
          have c_23 := es_if1 c_23
          obtain ⟨x0, hx0, rfl⟩ := es_nat c_4.1 c_4.2 (by decide)
          obtain ⟨y0, hy0, rfl⟩ := es_nat c_11.1 c_11.2 (by decide)
          refine lv_aload_n hx hb dX1_setArrow_28 rfl (lv_at hl 0 rfl) ?_
          refine va_get (D := D) (ci := 1) (v := .ref a) (C := RX1) (T := TX1) (N := 2) hx hb hw iwX1 hown hK.1 hP 0 rfl rfl 0 (by decide) (hw _ xw_103) (fun _ h9 => h9) rfl dX1_setArrow_29 ?_
          refine lv_iload_n hx hb dX1_setArrow_32 rfl (lv_at hl 1 rfl) ?_
          refine lv_bipush (v := nI 10) hx hb dX1_setArrow_33 (by decide) ?_
          refine lv_imul hx hb dX1_setArrow_35 ?_
          refine es_top (y := nI (x0 * 10)) (pk_mul _ _) ?_
          refine lv_iload_n hx hb dX1_setArrow_36 rfl (lv_at hl 2 rfl) ?_
          refine lv_iadd hx hb dX1_setArrow_37 ?_
          refine es_top (y := nI ((x0 * 10) + y0)) (nI_add _ _) ?_
          refine lv_iload_n hx hb dX1_setArrow_38 rfl (lv_at hl 3 rfl) ?_
          refine es_iast hx hb hK.1 hP hD hS 1 0 rfl rfl (by omega) (Nat.le_of_ble_eq_true rfl) dX1_setArrow_39 (fun H locs hP hD hS => ?_)
          have hP : va_P D vwCl [(tb, .inr (1, [.ref a, .ref k])), (a, .inl (cI, 200, .inl (upd ar ((x0 * 10) + y0) z))), (k, .inl (cI, 20, .inl ki))] H := hP
          have hD : va_D A [(tb, .inr (1, [.ref a, .ref k])), (a, .inl (cI, 200, .inl (upd ar ((x0 * 10) + y0) z))), (k, .inl (cI, 20, .inl ki))] := hD
          refine lv_iconst (v := nI 1) hx hb dX1_setArrow_40 (by decide) ?_
          exact W.zret (v := nI 1) hx hb hr rfl (fun zt ht hW => ⟨⟨_, (upd ar (x0 * 10 + y0) z), rfl, Or.inl ⟨rfl, ⟨c_4, c_11, (by first | exact Or.inl c_16 | exact Or.inr c_23)⟩, (by rw [nI_clamp (by omega), nI_clamp (by omega), Nat.mul_comm])⟩, ⟨by rw [ht]; exact hP.sub [0, 1, 2] rfl, hD.sub [0, 1, 2] (by decide) rfl⟩⟩, hS.F ht⟩) hS.2.2 dX1_setArrow_41
        ·
          have c_23 := es_if0 c_23
          refine lv_iconst (v := nI 0) hx hb dX1_setArrow_26 (by decide) ?_
          exact W.zret (v := nI 0) hx hb hr rfl (fun zt ht hW => ⟨⟨_, ar, rfl, Or.inr ⟨rfl, (fun h => by first | exact absurd h.1 c_4 | exact absurd h.2.1 c_11 | exact h.2.2.elim c_16 c_23), rfl⟩, ⟨by rw [ht]; exact hP.sub [0, 1, 2] rfl, hD.sub [0, 1, 2] (by decide) rfl⟩⟩, hS.F ht⟩) hS.2.2 dX1_setArrow_27
set_option maxHeartbeats 1000000 in
set_option maxRecDepth 100000 in
/-- X1.setKind  -/
theorem c_X1_setKind (l : Launch) (D : va_G) (cI : ClassId) (sz : Nat) (tb : Nat) (a : Nat) (k : Nat) (ar : Nat → Int32) (ki : Nat → Int32) (x : Int32) (y : Int32)  : Met l yX1_setKind (Cond.code yX1_setKind cX1_setKind 3 (some .boolean) :: es_T) { frames := 1, cells := 0, slots := 0, locals := 20 } (va_Pc [.ref tb, .int x, .int y] (es_W D cI sz [(tb, .inr (1, [.ref a, .ref k])), (a, .inl (cI, 200, .inl ar)), (k, .inl (cI, 20, .inl ki))])) (va_Qi (fun r u => (r = nI 1 ∧ es_okK x y ∧ u = upd ki x.toNatClampNeg y) ∨ (r = nI 0 ∧ ¬ es_okK x y ∧ u = ki)) (fun (u : Nat → Int32) zt => va_P D vwCl [(tb, .inr (1, [.ref a, .ref k])), (a, .inl (cI, 200, .inl ar)), (k, .inl (cI, 20, .inl u))] zt.heap ∧ va_D (va_A [(tb, .inr (1, [.ref a, .ref k])), (a, .inl (cI, 200, .inl ar)), (k, .inl (cI, 20, .inl ki))] sz) [(tb, .inr (1, [.ref a, .ref k])), (a, .inl (cI, 200, .inl ar)), (k, .inl (cI, 20, .inl u))]) (va_A [(tb, .inr (1, [.ref a, .ref k])), (a, .inl (cI, 200, .inl ar)), (k, .inl (cI, 20, .inl ki))] sz)) 0 0 (va_A [(tb, .inr (1, [.ref a, .ref k])), (a, .inl (cI, 200, .inl ar)), (k, .inl (cI, 20, .inl ki))] sz) := by
  refine Met.ofW (cc := cX1_setKind) (maxL := 3) (ret := (some .boolean)) (by decide) rfl ?_
  intro p e s m args below meth c s₁ B hml hv
  obtain ⟨rfl, hsz, hP, hK, hD0⟩ := hv
  have hx := B.exec
  have hb := B.bytes
  have hr := B.returns
  have hts := atoms_spec (ws := (Cond.code yX1_setKind cX1_setKind 3 (some .boolean) :: es_T)) B.pre
  have hw : ∀ w ∈ es_T, w.before _ s = true := fun w h => hts w (List.mem_cons_of_mem _ h)
  have hown : s.vm.findClass RX1 = some m.cls := findClass_of_methodNamed B.named
  have hlocks := B.notSynchronized
  have hRm : 1 ≤ (headSpec (Cond.code yX1_setKind cX1_setKind 3 (some .boolean) :: es_T) { frames := 1, cells := 0, slots := 0, locals := 20 }).room.frames ∧ 20 ≤ (headSpec (Cond.code yX1_setKind cX1_setKind 3 (some .boolean) :: es_T) { frames := 1, cells := 0, slots := 0, locals := 20 }).room.locals := ⟨Nat.le_refl _, Nat.le_refl _⟩
  have hRc : 0 ≤ (headSpec (Cond.code yX1_setKind cX1_setKind 3 (some .boolean) :: es_T) { frames := 1, cells := 0, slots := 0, locals := 20 }).room.cells ∧ 0 ≤ (headSpec (Cond.code yX1_setKind cX1_setKind 3 (some .boolean) :: es_T) { frames := 1, cells := 0, slots := 0, locals := 20 }).room.slots := ⟨Nat.le_refl _, Nat.le_refl _⟩
  subst hsz
  have hD := hD0.self (sz := s.heap.size)
  generalize hAe : va_A [(tb, .inr (1, [.ref a, .ref k])), (a, .inl (cI, 200, .inl ar)), (k, .inl (cI, 20, .inl ki))] s.heap.size = A at hD ⊢
  have hA : ∀ q : Nat, s.heap.size ≤ q → A q := fun q h => by rw [← hAe]; exact Or.inr h
  have hS : va_S A s.heap s.heap [] := va_S.rf
  have hl := lv_entry ([.ref tb, .int x, .int y]) (n := 3) (Nat.le_of_ble_eq_true rfl)
  rw [lg_entry_eq]
  generalize (lg_sl ([.ref tb, .int x, .int y]) ++ List.replicate (3 - (lg_sl ([.ref tb, .int x, .int y])).length) Slot.unset).toArray = ls at hl ⊢
  have hl : lv_has ls 3 [(0, .ref tb), (1, .int x), (2, .int y)] := hl
  refine lv_iload_n hx hb dX1_setKind_0 rfl (lv_at hl 1 rfl) ?_
  refine vp_callSi (va_Run.run (va_runS (As := [.int x]) (rest := []) ⟨hx, hb, hml, hown, hw⟩ (c_X1_isState l D cI x ) (cwS 1 hw (es_s xw_115 xw_116 xw_117 xw_111) rfl rfl rfl kv_X1_isState ⟨Nat.le_trans (Nat.le_of_ble_eq_true rfl) hRm.1, Nat.le_trans (Nat.le_of_ble_eq_true rfl) hRm.2⟩) (es_RS hK (hP.sub (ws' := []) [] rfl)) rfl rfl hl.1 rfl (lv_room (Nat.le_of_ble_eq_true rfl)) dX1_setKind_1 ⟨(Nat.zero_le _), (Nat.zero_le _)⟩)) (fun r_1 er_1 => ?_)
  obtain rfl : r_1 = if 0 ≤ x ∧ x < nI 20 then (1 : Int32) else 0 := er_1
  refine lv_if_eq (tgt := 18) hx hb dX1_setKind_4 (by decide) (fun c_4 => ?_) (fun c_4 => ?_)
  ·
    have c_4 := es_if0 c_4
    refine lv_iconst (v := nI 0) hx hb dX1_setKind_18 (by decide) ?_
    exact W.zret (v := nI 0) hx hb hr rfl (fun zt ht hW => ⟨⟨_, ki, rfl, Or.inr ⟨rfl, (fun h => by first | exact absurd h.1 c_4 | exact absurd c_9 (Int32.not_lt.mpr h.2.1) | exact absurd h.2.2 c_15), rfl⟩, ⟨by rw [ht]; exact hP.sub [0, 1, 2] rfl, hD.sub [0, 1, 2] (by decide) rfl⟩⟩, hS.F ht⟩) hS.2.2 dX1_setKind_19
  ·
    have c_4 := es_if1 c_4
    refine lv_iload_n hx hb dX1_setKind_7 rfl (lv_at hl 2 rfl) ?_
    refine lv_iconst (v := (-1)) hx hb dX1_setKind_8 (by decide) ?_
    refine lv_icmp_lt (tgt := 18) hx hb dX1_setKind_9 (by decide) (fun c_9 => ?_) (fun c_9 => ?_)
    ·
      refine lv_iconst (v := nI 0) hx hb dX1_setKind_18 (by decide) ?_
      exact W.zret (v := nI 0) hx hb hr rfl (fun zt ht hW => ⟨⟨_, ki, rfl, Or.inr ⟨rfl, (fun h => by first | exact absurd h.1 c_4 | exact absurd c_9 (Int32.not_lt.mpr h.2.1) | exact absurd h.2.2 c_15), rfl⟩, ⟨by rw [ht]; exact hP.sub [0, 1, 2] rfl, hD.sub [0, 1, 2] (by decide) rfl⟩⟩, hS.F ht⟩) hS.2.2 dX1_setKind_19
    ·
      refine lv_iload_n hx hb dX1_setKind_12 rfl (lv_at hl 2 rfl) ?_
      refine lv_bipush (v := nI 100) hx hb dX1_setKind_13 (by decide) ?_
      refine lv_icmp_lt (tgt := 20) hx hb dX1_setKind_15 (by decide) (fun c_15 => ?_) (fun c_15 => ?_)
      ·
        obtain ⟨x0, hx0, rfl⟩ := es_nat c_4.1 c_4.2 (by decide)
        refine lv_aload_n hx hb dX1_setKind_20 rfl (lv_at hl 0 rfl) ?_
        refine va_get (D := D) (ci := 1) (v := .ref k) (C := RX1) (T := TX1) (N := 2) hx hb hw iwX1 hown hK.1 hP 0 rfl rfl 1 (by decide) (hw _ xw_108) (fun _ h9 => h9) rfl dX1_setKind_21 ?_
        refine lv_iload_n hx hb dX1_setKind_24 rfl (lv_at hl 1 rfl) ?_
        refine lv_iload_n hx hb dX1_setKind_25 rfl (lv_at hl 2 rfl) ?_
        refine es_iast hx hb hK.1 hP hD hS 2 0 rfl rfl (by omega) (Nat.le_of_ble_eq_true rfl) dX1_setKind_26 (fun H locs hP hD hS => ?_)
        have hP : va_P D vwCl [(tb, .inr (1, [.ref a, .ref k])), (a, .inl (cI, 200, .inl ar)), (k, .inl (cI, 20, .inl (upd ki x0 y)))] H := hP
        have hD : va_D A [(tb, .inr (1, [.ref a, .ref k])), (a, .inl (cI, 200, .inl ar)), (k, .inl (cI, 20, .inl (upd ki x0 y)))] := hD
        refine lv_iconst (v := nI 1) hx hb dX1_setKind_27 (by decide) ?_
        exact W.zret (v := nI 1) hx hb hr rfl (fun zt ht hW => ⟨⟨_, (upd ki x0 y), rfl, Or.inl ⟨rfl, ⟨c_4, Int32.not_lt.mp c_9, c_15⟩, (by rw [nI_clamp (by omega)])⟩, ⟨by rw [ht]; exact hP.sub [0, 1, 2] rfl, hD.sub [0, 1, 2] (by decide) rfl⟩⟩, hS.F ht⟩) hS.2.2 dX1_setKind_28
      ·
        refine lv_iconst (v := nI 0) hx hb dX1_setKind_18 (by decide) ?_
        exact W.zret (v := nI 0) hx hb hr rfl (fun zt ht hW => ⟨⟨_, ki, rfl, Or.inr ⟨rfl, (fun h => by first | exact absurd h.1 c_4 | exact absurd c_9 (Int32.not_lt.mpr h.2.1) | exact absurd h.2.2 c_15), rfl⟩, ⟨by rw [ht]; exact hP.sub [0, 1, 2] rfl, hD.sub [0, 1, 2] (by decide) rfl⟩⟩, hS.F ht⟩) hS.2.2 dX1_setKind_19
set_option maxHeartbeats 1000000 in
set_option maxRecDepth 100000 in
/-- X1.forget  -/
theorem c_X1_forget (l : Launch) (D : va_G) (cI : ClassId) (sz : Nat) (tb : Nat) (a : Nat) (k : Nat) (ar : Nat → Int32) (ki : Nat → Int32)  : Met l yX1_forget (Cond.code yX1_forget cX1_forget 1 none :: es_T) { frames := 1, cells := 0, slots := 0, locals := 23 } (va_Pc [.ref tb] (es_W D cI sz [(tb, .inr (1, [.ref a, .ref k])), (a, .inl (cI, 200, .inl ar)), (k, .inl (cI, 20, .inl ki))])) (va_Qv (fun _ => True) (fun (u : Unit) zt => va_P D vwCl [(tb, .inr (1, [.ref a, .ref k])), (a, .inl (cI, 200, .inl (fun _ => -1))), (k, .inl (cI, 20, .inl (fun _ => -1)))] zt.heap ∧ va_D (va_A [(tb, .inr (1, [.ref a, .ref k])), (a, .inl (cI, 200, .inl ar)), (k, .inl (cI, 20, .inl ki))] sz) [(tb, .inr (1, [.ref a, .ref k])), (a, .inl (cI, 200, .inl (fun _ => -1))), (k, .inl (cI, 20, .inl (fun _ => -1)))]) (va_A [(tb, .inr (1, [.ref a, .ref k])), (a, .inl (cI, 200, .inl ar)), (k, .inl (cI, 20, .inl ki))] sz)) 0 0 (va_A [(tb, .inr (1, [.ref a, .ref k])), (a, .inl (cI, 200, .inl ar)), (k, .inl (cI, 20, .inl ki))] sz) := by
  refine Met.ofW (cc := cX1_forget) (maxL := 1) (ret := none) (by decide) rfl ?_
  intro p e s m args below meth c s₁ B hml hv
  obtain ⟨rfl, hsz, hP, hK, hD0⟩ := hv
  have hx := B.exec
  have hb := B.bytes
  have hr := B.returns
  have hts := atoms_spec (ws := (Cond.code yX1_forget cX1_forget 1 none :: es_T)) B.pre
  have hw : ∀ w ∈ es_T, w.before _ s = true := fun w h => hts w (List.mem_cons_of_mem _ h)
  have hown : s.vm.findClass RX1 = some m.cls := findClass_of_methodNamed B.named
  have hlocks := B.notSynchronized
  have hRm : 1 ≤ (headSpec (Cond.code yX1_forget cX1_forget 1 none :: es_T) { frames := 1, cells := 0, slots := 0, locals := 23 }).room.frames ∧ 23 ≤ (headSpec (Cond.code yX1_forget cX1_forget 1 none :: es_T) { frames := 1, cells := 0, slots := 0, locals := 23 }).room.locals := ⟨Nat.le_refl _, Nat.le_refl _⟩
  have hRc : 0 ≤ (headSpec (Cond.code yX1_forget cX1_forget 1 none :: es_T) { frames := 1, cells := 0, slots := 0, locals := 23 }).room.cells ∧ 0 ≤ (headSpec (Cond.code yX1_forget cX1_forget 1 none :: es_T) { frames := 1, cells := 0, slots := 0, locals := 23 }).room.slots := ⟨Nat.le_refl _, Nat.le_refl _⟩
  subst hsz
  have hD := hD0.self (sz := s.heap.size)
  generalize hAe : va_A [(tb, .inr (1, [.ref a, .ref k])), (a, .inl (cI, 200, .inl ar)), (k, .inl (cI, 20, .inl ki))] s.heap.size = A at hD ⊢
  have hA : ∀ q : Nat, s.heap.size ≤ q → A q := fun q h => by rw [← hAe]; exact Or.inr h
  have hS : va_S A s.heap s.heap [] := va_S.rf
  have hl := lv_entry ([.ref tb]) (n := 1) (Nat.le_of_ble_eq_true rfl)
  rw [lg_entry_eq]
  generalize (lg_sl ([.ref tb]) ++ List.replicate (1 - (lg_sl ([.ref tb])).length) Slot.unset).toArray = ls at hl ⊢
  have hl : lv_has ls 1 [(0, .ref tb)] := hl
  refine lv_aload_n hx hb dX1_forget_0 rfl (lv_at hl 0 rfl) ?_
  refine va_get (D := D) (ci := 1) (v := .ref a) (C := RX1) (T := TX1) (N := 2) hx hb hw iwX1 hown hK.1 hP 0 rfl rfl 0 (by decide) (hw _ xw_103) (fun _ h9 => h9) rfl dX1_forget_1 ?_
  refine lv_iconst (v := (-1)) hx hb dX1_forget_4 (by decide) ?_
  refine es_cv (wr := [(tb, .inr (1, [.ref a, .ref k])), (k, .inl (cI, 20, .inl ki))]) (va_runS (As := [.ref a, .int (-1)]) (rest := []) ⟨hx, hb, hml, hown, hw⟩ (c_J7_fill_53178 l D cI s.heap.size a 200 ar (-1) (by first | assumption | omega)) (va_cwS 2 hw (es_so xw_104 xw_106 xw_107 xw_105) rfl rfl rfl k0_J7_fill_53178 ⟨Nat.le_trans (Nat.le_of_ble_eq_true rfl) hRm.1, Nat.le_trans (Nat.le_of_ble_eq_true rfl) hRm.2⟩) (es_WS hK (hP.sub (ws' := [(a, .inl (cI, 200, .inl ar))]) [1] rfl) (hD.sub (ws' := [(a, .inl (cI, 200, .inl ar))]) [1] (by decide) rfl)) rfl rfl hl.1 rfl (lv_room (Nat.le_of_ble_eq_true rfl)) dX1_forget_5 ⟨(Nat.zero_le _), (Nat.zero_le _)⟩) hP hD hS hA [1] [0, 2] rfl rfl (by decide) (by decide) (fun u_1 H locs hu_1 hP hD hS => ?_)
  have hP : va_P D vwCl [(tb, .inr (1, [.ref a, .ref k])), (k, .inl (cI, 20, .inl ki)), (a, .inl (cI, 200, .inl (fun _ => (-1))))] H := hP
  have hD : va_D A [(tb, .inr (1, [.ref a, .ref k])), (k, .inl (cI, 20, .inl ki)), (a, .inl (cI, 200, .inl (fun _ => (-1))))] := hD
  refine lv_aload_n hx hb dX1_forget_8 rfl (lv_at hl 0 rfl) ?_
  refine va_get (D := D) (ci := 1) (v := .ref k) (C := RX1) (T := TX1) (N := 2) hx hb hw iwX1 hown hK.1 hP 0 rfl rfl 1 (by decide) (hw _ xw_108) (fun _ h9 => h9) rfl dX1_forget_9 ?_
  refine lv_iconst (v := (-1)) hx hb dX1_forget_12 (by decide) ?_
  refine es_cv (wr := [(tb, .inr (1, [.ref a, .ref k])), (a, .inl (cI, 200, .inl (fun _ => (-1))))]) (va_runS (As := [.ref k, .int (-1)]) (rest := []) ⟨hx, hb, hml, hown, hw⟩ (c_J7_fill_53178 l D cI H.size k 20 ki (-1) (by first | assumption | omega)) (va_cwS 2 hw (es_so xw_104 xw_106 xw_107 xw_105) rfl rfl rfl k0_J7_fill_53178 ⟨Nat.le_trans (Nat.le_of_ble_eq_true rfl) hRm.1, Nat.le_trans (Nat.le_of_ble_eq_true rfl) hRm.2⟩) (es_WS hK (hP.sub (ws' := [(k, .inl (cI, 20, .inl ki))]) [1] rfl) (hD.sub (ws' := [(k, .inl (cI, 20, .inl ki))]) [1] (by decide) rfl)) rfl rfl hl.1 rfl (lv_room (Nat.le_of_ble_eq_true rfl)) dX1_forget_13 ⟨(Nat.zero_le _), (Nat.zero_le _)⟩) hP hD hS hA [1] [0, 2] rfl rfl (by decide) (by decide) (fun u_3 H locs hu_3 hP hD hS => ?_)
  have hP : va_P D vwCl [(tb, .inr (1, [.ref a, .ref k])), (a, .inl (cI, 200, .inl (fun _ => (-1)))), (k, .inl (cI, 20, .inl (fun _ => (-1))))] H := hP
  have hD : va_D A [(tb, .inr (1, [.ref a, .ref k])), (a, .inl (cI, 200, .inl (fun _ => (-1)))), (k, .inl (cI, 20, .inl (fun _ => (-1))))] := hD
  exact W.vret hx hb hr (fun zt ht hW => ⟨⟨(), rfl, trivial, ⟨by rw [ht]; exact hP.sub [0, 1, 2] rfl, hD.sub [0, 1, 2] (by decide) rfl⟩⟩, hS.F ht⟩) hS.2.2 dX1_forget_16
set_option maxHeartbeats 1000000 in
set_option maxRecDepth 100000 in
/-- X1.init  -/
theorem c_X1_init (l : Launch) (D : va_G) (cI : ClassId) (sz : Nat) (tb : Nat)  : Met l yX1_init (Cond.code yX1_init cX1_init 1 none :: es_T) { frames := 2, cells := 2, slots := 220, locals := 43 } (va_Pc [.ref tb] (es_W D cI sz [(tb, .inr (1, [.null, .null]))])) (va_Qv (fun _ => True) (fun (u : Nat × Nat) zt => va_P D vwCl [(tb, .inr (1, [.ref u.1, .ref u.2])), (u.1, .inl (cI, 200, .inl (fun _ => -1))), (u.2, .inl (cI, 20, .inl (fun _ => -1)))] zt.heap ∧ va_D (va_A [(tb, .inr (1, [.null, .null]))] sz) [(tb, .inr (1, [.ref u.1, .ref u.2])), (u.1, .inl (cI, 200, .inl (fun _ => -1))), (u.2, .inl (cI, 20, .inl (fun _ => -1)))]) (va_A [(tb, .inr (1, [.null, .null]))] sz)) 2 220 (va_A [(tb, .inr (1, [.null, .null]))] sz) := by
  refine Met.ofW (cc := cX1_init) (maxL := 1) (ret := none) (by decide) rfl ?_
  intro p e s m args below meth c s₁ B hml hv
  obtain ⟨rfl, hsz, hP, hK, hD0⟩ := hv
  have hx := B.exec
  have hb := B.bytes
  have hr := B.returns
  have hts := atoms_spec (ws := (Cond.code yX1_init cX1_init 1 none :: es_T)) B.pre
  have hw : ∀ w ∈ es_T, w.before _ s = true := fun w h => hts w (List.mem_cons_of_mem _ h)
  have hown : s.vm.findClass RX1 = some m.cls := findClass_of_methodNamed B.named
  have hlocks := B.notSynchronized
  have hin : meth.name = "<init>" := (name_of_methodNamed B.named B.method).1
  have hRm : 2 ≤ (headSpec (Cond.code yX1_init cX1_init 1 none :: es_T) { frames := 2, cells := 2, slots := 220, locals := 43 }).room.frames ∧ 43 ≤ (headSpec (Cond.code yX1_init cX1_init 1 none :: es_T) { frames := 2, cells := 2, slots := 220, locals := 43 }).room.locals := ⟨Nat.le_refl _, Nat.le_refl _⟩
  have hRc : 2 ≤ (headSpec (Cond.code yX1_init cX1_init 1 none :: es_T) { frames := 2, cells := 2, slots := 220, locals := 43 }).room.cells ∧ 220 ≤ (headSpec (Cond.code yX1_init cX1_init 1 none :: es_T) { frames := 2, cells := 2, slots := 220, locals := 43 }).room.slots := ⟨Nat.le_refl _, Nat.le_refl _⟩
  subst hsz
  have hD := hD0.self (sz := s.heap.size)
  generalize hAe : va_A [(tb, .inr (1, [.null, .null]))] s.heap.size = A at hD ⊢
  have hA : ∀ q : Nat, s.heap.size ≤ q → A q := fun q h => by rw [← hAe]; exact Or.inr h
  have hS : va_S A s.heap s.heap [] := va_S.rf
  have hl := lv_entry ([.ref tb]) (n := 1) (Nat.le_of_ble_eq_true rfl)
  rw [lg_entry_eq]
  generalize (lg_sl ([.ref tb]) ++ List.replicate (1 - (lg_sl ([.ref tb])).length) Slot.unset).toArray = ls at hl ⊢
  have hl : lv_has ls 1 [(0, .ref tb)] := hl
  refine lv_aload_n hx hb dX1_init_0 rfl (lv_at hl 0 rfl) ?_
  refine W.objInit hx hb hown (hw _ xw_109) (hw _ xw_92) (hw _ xw_93) rfl (by rw [hml]; exact hl.1) rfl dX1_init_1 (Nat.le_trans (Nat.le_of_ble_eq_true rfl) hRm.1) (Nat.le_trans (Nat.le_of_ble_eq_true rfl) hRm.2) ?_
  refine W.eq (g2 := F0 m 4 ls []) rfl ?_
  refine lv_aload_n hx hb dX1_init_4 rfl (lv_at hl 0 rfl) ?_
  refine lv_sipush (v := nI 200) hx hb dX1_init_5 (by decide) ?_
  refine es_newa hx hb (hw _ xw_94) hK.1 hP hD hS hA (N' := 200) (by decide) (by decide) (Nat.le_trans (Nat.le_of_ble_eq_true rfl) hRc.1) (Nat.le_trans (Nat.le_of_ble_eq_true rfl) hRc.2) (by decide) dX1_init_8 (fun q_1 H hP hD hS => ?_)
  have hP : va_P D vwCl [(tb, .inr (1, [.null, .null])), (q_1, .inl (cI, 200, .inl (fun _ => 0)))] H := hP
  have hD : va_D A [(tb, .inr (1, [.null, .null])), (q_1, .inl (cI, 200, .inl (fun _ => 0)))] := hD
  refine W.widen (k := 1) (n := 200) (Nat.le_of_ble_eq_true rfl) (Nat.le_of_ble_eq_true rfl) ?_
  refine va_putF (D := D) (ci := 1) (v := .ref q_1) (ty := (.array .int)) (C := RX1) (T := TX1) (N := 2) hx hb hw iwX1 tyX1 tyX1_ok nmX1 hown hK.1 hP hD hS 0 rfl rfl 0 (by decide) (hw _ xw_103) (fun _ h9 => h9) rfl hin rfl (by decide +kernel) rfl rfl (Nat.le_of_ble_eq_true rfl) dX1_init_10 (fun H locs hP hD hS => ?_)
  have hP : va_P D vwCl [(tb, .inr (1, [.ref q_1, .null])), (q_1, .inl (cI, 200, .inl (fun _ => 0)))] H := hP
  have hD : va_D A [(tb, .inr (1, [.ref q_1, .null])), (q_1, .inl (cI, 200, .inl (fun _ => 0)))] := hD
  refine lv_aload_n hx hb dX1_init_13 rfl (lv_at hl 0 rfl) ?_
  refine lv_bipush (v := nI 20) hx hb dX1_init_14 (by decide) ?_
  refine es_newa hx hb (hw _ xw_94) hK.1 hP hD hS hA (N' := 20) (by decide) (by decide) (Nat.le_trans (Nat.le_of_ble_eq_true rfl) hRc.1) (Nat.le_trans (Nat.le_of_ble_eq_true rfl) hRc.2) (by decide) dX1_init_16 (fun q_2 H hP hD hS => ?_)
  have hP : va_P D vwCl [(tb, .inr (1, [.ref q_1, .null])), (q_1, .inl (cI, 200, .inl (fun _ => 0))), (q_2, .inl (cI, 20, .inl (fun _ => 0)))] H := hP
  have hD : va_D A [(tb, .inr (1, [.ref q_1, .null])), (q_1, .inl (cI, 200, .inl (fun _ => 0))), (q_2, .inl (cI, 20, .inl (fun _ => 0)))] := hD
  refine W.widen (k := 2) (n := 220) (Nat.le_of_ble_eq_true rfl) (Nat.le_of_ble_eq_true rfl) ?_
  refine va_putF (D := D) (ci := 1) (v := .ref q_2) (ty := (.array .int)) (C := RX1) (T := TX1) (N := 2) hx hb hw iwX1 tyX1 tyX1_ok nmX1 hown hK.1 hP hD hS 0 rfl rfl 1 (by decide) (hw _ xw_108) (fun _ h9 => h9) rfl hin rfl (by decide +kernel) rfl rfl (Nat.le_of_ble_eq_true rfl) dX1_init_18 (fun H locs hP hD hS => ?_)
  have hP : va_P D vwCl [(tb, .inr (1, [.ref q_1, .ref q_2])), (q_1, .inl (cI, 200, .inl (fun _ => 0))), (q_2, .inl (cI, 20, .inl (fun _ => 0)))] H := hP
  have hD : va_D A [(tb, .inr (1, [.ref q_1, .ref q_2])), (q_1, .inl (cI, 200, .inl (fun _ => 0))), (q_2, .inl (cI, 20, .inl (fun _ => 0)))] := hD
  refine lv_aload_n hx hb dX1_init_21 rfl (lv_at hl 0 rfl) ?_
  refine es_cv (wr := []) (va_runV (As := []) (rest := []) ⟨hx, hb, hml, hown, hw⟩ (c_X1_forget l D cI H.size tb q_1 q_2 (fun _ => 0) (fun _ => 0) ) (cwV 0 hw (es_v xw_110 xw_112 xw_113 xw_114 xw_111) rfl rfl rfl kv_X1_forget ⟨Nat.le_trans (Nat.le_of_ble_eq_true rfl) hRm.1, Nat.le_trans (Nat.le_of_ble_eq_true rfl) hRm.2⟩) (es_WV hK (hP.sub (ws' := [(tb, .inr (1, [.ref q_1, .ref q_2])), (q_1, .inl (cI, 200, .inl (fun _ => 0))), (q_2, .inl (cI, 20, .inl (fun _ => 0)))]) [0, 1, 2] rfl) (hD.sub (ws' := [(tb, .inr (1, [.ref q_1, .ref q_2])), (q_1, .inl (cI, 200, .inl (fun _ => 0))), (q_2, .inl (cI, 20, .inl (fun _ => 0)))]) [0, 1, 2] (by decide) rfl) rfl rfl) rfl rfl hl.1 rfl (lv_room (Nat.le_of_ble_eq_true rfl)) dX1_init_22 ⟨(Nat.le_trans (Nat.le_of_ble_eq_true rfl) hRc.1), (Nat.le_trans (Nat.le_of_ble_eq_true rfl) hRc.2)⟩) hP hD hS hA [0, 1, 2] [] rfl rfl (by decide) (by decide) (fun u_3 H locs hu_3 hP hD hS => ?_)
  have hP : va_P D vwCl [(tb, .inr (1, [.ref q_1, .ref q_2])), (q_1, .inl (cI, 200, .inl (fun _ => -1))), (q_2, .inl (cI, 20, .inl (fun _ => -1)))] H := hP
  have hD : va_D A [(tb, .inr (1, [.ref q_1, .ref q_2])), (q_1, .inl (cI, 200, .inl (fun _ => -1))), (q_2, .inl (cI, 20, .inl (fun _ => -1)))] := hD
  refine W.widen (k := 2) (n := 220) (Nat.le_of_ble_eq_true rfl) (Nat.le_of_ble_eq_true rfl) ?_
  exact W.vret hx hb hr (fun zt ht hW => ⟨⟨(q_1, q_2), rfl, trivial, ⟨by rw [ht]; exact hP.sub [0, 1, 2] rfl, hD.sub [0, 1, 2] (by decide) rfl⟩⟩, hS.F ht⟩) hS.2.2 dX1_init_25
set_option maxHeartbeats 1000000 in
set_option maxRecDepth 100000 in
/-- X2.init  -/
theorem c_X2_init (l : Launch) (D : va_G) (cI : ClassId) (sz : Nat) (t : Nat)  : Met l yX2_init (Cond.code yX2_init cX2_init 1 none :: es_T) { frames := 1, cells := 1, slots := 400, locals := 20 } (va_Pc [.ref t] (es_W D cI sz [(t, .inr (2, [.null, .int 0]))])) (va_Qv (fun _ => True) (fun (u : Nat) zt => va_P D vwCl [(t, .inr (2, [.ref u, .int (nI 0)])), (u, .inl (cI, 400, .inl (fun _ => 0)))] zt.heap ∧ va_D (va_A [(t, .inr (2, [.null, .int 0]))] sz) [(t, .inr (2, [.ref u, .int (nI 0)])), (u, .inl (cI, 400, .inl (fun _ => 0)))]) (va_A [(t, .inr (2, [.null, .int 0]))] sz)) 1 400 (va_A [(t, .inr (2, [.null, .int 0]))] sz) := by
  refine Met.ofW (cc := cX2_init) (maxL := 1) (ret := none) (by decide) rfl ?_
  intro p e s m args below meth c s₁ B hml hv
  obtain ⟨rfl, hsz, hP, hK, hD0⟩ := hv
  have hx := B.exec
  have hb := B.bytes
  have hr := B.returns
  have hts := atoms_spec (ws := (Cond.code yX2_init cX2_init 1 none :: es_T)) B.pre
  have hw : ∀ w ∈ es_T, w.before _ s = true := fun w h => hts w (List.mem_cons_of_mem _ h)
  have hown : s.vm.findClass RX2 = some m.cls := findClass_of_methodNamed B.named
  have hlocks := B.notSynchronized
  have hin : meth.name = "<init>" := (name_of_methodNamed B.named B.method).1
  have hRm : 1 ≤ (headSpec (Cond.code yX2_init cX2_init 1 none :: es_T) { frames := 1, cells := 1, slots := 400, locals := 20 }).room.frames ∧ 20 ≤ (headSpec (Cond.code yX2_init cX2_init 1 none :: es_T) { frames := 1, cells := 1, slots := 400, locals := 20 }).room.locals := ⟨Nat.le_refl _, Nat.le_refl _⟩
  have hRc : 1 ≤ (headSpec (Cond.code yX2_init cX2_init 1 none :: es_T) { frames := 1, cells := 1, slots := 400, locals := 20 }).room.cells ∧ 400 ≤ (headSpec (Cond.code yX2_init cX2_init 1 none :: es_T) { frames := 1, cells := 1, slots := 400, locals := 20 }).room.slots := ⟨Nat.le_refl _, Nat.le_refl _⟩
  subst hsz
  have hD := hD0.self (sz := s.heap.size)
  generalize hAe : va_A [(t, .inr (2, [.null, .int 0]))] s.heap.size = A at hD ⊢
  have hA : ∀ q : Nat, s.heap.size ≤ q → A q := fun q h => by rw [← hAe]; exact Or.inr h
  have hS : va_S A s.heap s.heap [] := va_S.rf
  have hl := lv_entry ([.ref t]) (n := 1) (Nat.le_of_ble_eq_true rfl)
  rw [lg_entry_eq]
  generalize (lg_sl ([.ref t]) ++ List.replicate (1 - (lg_sl ([.ref t])).length) Slot.unset).toArray = ls at hl ⊢
  have hl : lv_has ls 1 [(0, .ref t)] := hl
  refine lv_aload_n hx hb dX2_init_0 rfl (lv_at hl 0 rfl) ?_
  refine W.objInit hx hb hown (hw _ xw_123) (hw _ xw_92) (hw _ xw_93) rfl (by rw [hml]; exact hl.1) rfl dX2_init_1 (Nat.le_trans (Nat.le_of_ble_eq_true rfl) hRm.1) (Nat.le_trans (Nat.le_of_ble_eq_true rfl) hRm.2) ?_
  refine W.eq (g2 := F0 m 4 ls []) rfl ?_
  refine lv_aload_n hx hb dX2_init_4 rfl (lv_at hl 0 rfl) ?_
  refine lv_sipush (v := nI 400) hx hb dX2_init_5 (by decide) ?_
  refine es_newa hx hb (hw _ xw_94) hK.1 hP hD hS hA (N' := 400) (by decide) (by decide) (Nat.le_trans (Nat.le_of_ble_eq_true rfl) hRc.1) (Nat.le_trans (Nat.le_of_ble_eq_true rfl) hRc.2) (by decide) dX2_init_8 (fun q_1 H hP hD hS => ?_)
  have hP : va_P D vwCl [(t, .inr (2, [.null, .int 0])), (q_1, .inl (cI, 400, .inl (fun _ => 0)))] H := hP
  have hD : va_D A [(t, .inr (2, [.null, .int 0])), (q_1, .inl (cI, 400, .inl (fun _ => 0)))] := hD
  refine W.widen (k := 1) (n := 400) (Nat.le_of_ble_eq_true rfl) (Nat.le_of_ble_eq_true rfl) ?_
  refine va_putF (D := D) (ci := 2) (v := .ref q_1) (ty := (.array .int)) (C := RX2) (T := TX2) (N := 2) hx hb hw iwX2 tyX2 tyX2_ok nmX2 hown hK.1 hP hD hS 0 rfl rfl 0 (by decide) (hw _ xw_122) (fun _ h9 => h9) rfl hin rfl (by decide +kernel) rfl rfl (Nat.le_of_ble_eq_true rfl) dX2_init_10 (fun H locs hP hD hS => ?_)
  have hP : va_P D vwCl [(t, .inr (2, [.ref q_1, .int 0])), (q_1, .inl (cI, 400, .inl (fun _ => 0)))] H := hP
  have hD : va_D A [(t, .inr (2, [.ref q_1, .int 0])), (q_1, .inl (cI, 400, .inl (fun _ => 0)))] := hD
  refine W.widen (k := 1) (n := 400) (Nat.le_of_ble_eq_true rfl) (Nat.le_of_ble_eq_true rfl) ?_
  exact W.vret hx hb hr (fun zt ht hW => ⟨⟨q_1, rfl, trivial, ⟨by rw [ht]; exact hP.sub [0, 1] rfl, hD.sub [0, 1] (by decide) rfl⟩⟩, hS.F ht⟩) hS.2.2 dX2_init_13
set_option maxHeartbeats 1000000 in
set_option maxRecDepth 100000 in
/-- X2.forget  -/
theorem c_X2_forget (l : Launch) (D : va_G) (cI : ClassId) (sz : Nat) (t : Nat) (r : Nat) (tx : Nat → Int32) (n : Nat)  : Met l yX2_forget (Cond.code yX2_forget cX2_forget 1 none :: es_T) { frames := 0, cells := 0, slots := 0, locals := 0 } (va_Pc [.ref t] (es_W D cI sz [(t, .inr (2, [.ref r, .int (nI n)])), (r, .inl (cI, 400, .inl tx))])) (va_Qv (fun _ => True) (fun (u : Unit) zt => va_P D vwCl [(t, .inr (2, [.ref r, .int (nI 0)])), (r, .inl (cI, 400, .inl tx))] zt.heap ∧ va_D (va_A [(t, .inr (2, [.ref r, .int (nI n)])), (r, .inl (cI, 400, .inl tx))] sz) [(t, .inr (2, [.ref r, .int (nI 0)])), (r, .inl (cI, 400, .inl tx))]) (va_A [(t, .inr (2, [.ref r, .int (nI n)])), (r, .inl (cI, 400, .inl tx))] sz)) 0 0 (va_A [(t, .inr (2, [.ref r, .int (nI n)])), (r, .inl (cI, 400, .inl tx))] sz) := by
  refine Met.ofW (cc := cX2_forget) (maxL := 1) (ret := none) (by decide) rfl ?_
  intro p e s m args below meth c s₁ B hml hv
  obtain ⟨rfl, hsz, hP, hK, hD0⟩ := hv
  have hx := B.exec
  have hb := B.bytes
  have hr := B.returns
  have hts := atoms_spec (ws := (Cond.code yX2_forget cX2_forget 1 none :: es_T)) B.pre
  have hw : ∀ w ∈ es_T, w.before _ s = true := fun w h => hts w (List.mem_cons_of_mem _ h)
  have hown : s.vm.findClass RX2 = some m.cls := findClass_of_methodNamed B.named
  have hlocks := B.notSynchronized
  have hRm : 0 ≤ (headSpec (Cond.code yX2_forget cX2_forget 1 none :: es_T) { frames := 0, cells := 0, slots := 0, locals := 0 }).room.frames ∧ 0 ≤ (headSpec (Cond.code yX2_forget cX2_forget 1 none :: es_T) { frames := 0, cells := 0, slots := 0, locals := 0 }).room.locals := ⟨Nat.le_refl _, Nat.le_refl _⟩
  have hRc : 0 ≤ (headSpec (Cond.code yX2_forget cX2_forget 1 none :: es_T) { frames := 0, cells := 0, slots := 0, locals := 0 }).room.cells ∧ 0 ≤ (headSpec (Cond.code yX2_forget cX2_forget 1 none :: es_T) { frames := 0, cells := 0, slots := 0, locals := 0 }).room.slots := ⟨Nat.le_refl _, Nat.le_refl _⟩
  subst hsz
  have hD := hD0.self (sz := s.heap.size)
  generalize hAe : va_A [(t, .inr (2, [.ref r, .int (nI n)])), (r, .inl (cI, 400, .inl tx))] s.heap.size = A at hD ⊢
  have hA : ∀ q : Nat, s.heap.size ≤ q → A q := fun q h => by rw [← hAe]; exact Or.inr h
  have hS : va_S A s.heap s.heap [] := va_S.rf
  have hl := lv_entry ([.ref t]) (n := 1) (Nat.le_of_ble_eq_true rfl)
  rw [lg_entry_eq]
  generalize (lg_sl ([.ref t]) ++ List.replicate (1 - (lg_sl ([.ref t])).length) Slot.unset).toArray = ls at hl ⊢
  have hl : lv_has ls 1 [(0, .ref t)] := hl
  refine lv_aload_n hx hb dX2_forget_0 rfl (lv_at hl 0 rfl) ?_
  refine lv_iconst (v := nI 0) hx hb dX2_forget_1 (by decide) ?_
  refine va_put (D := D) (ci := 2) (v := .int (nI 0)) (ty := .int) (C := RX2) (T := TX2) (N := 2) hx hb hw iwX2 tyX2 tyX2_ok nmX2 hown hK.1 hP hD hS 0 rfl rfl 1 (by decide) (hw _ xw_121) (fun _ h9 => h9) rfl (by decide +kernel) rfl rfl (Nat.le_of_ble_eq_true rfl) dX2_forget_2 (fun H locs hP hD hS => ?_)
  have hP : va_P D vwCl [(t, .inr (2, [.ref r, .int (nI 0)])), (r, .inl (cI, 400, .inl tx))] H := hP
  have hD : va_D A [(t, .inr (2, [.ref r, .int (nI 0)])), (r, .inl (cI, 400, .inl tx))] := hD
  exact W.vret hx hb hr (fun zt ht hW => ⟨⟨(), rfl, trivial, ⟨by rw [ht]; exact hP.sub [0, 1] rfl, hD.sub [0, 1] (by decide) rfl⟩⟩, hS.F ht⟩) hS.2.2 dX2_forget_5
set_option maxHeartbeats 1000000 in
set_option maxRecDepth 100000 in
/-- X2.size  -/
theorem c_X2_size (l : Launch) (D : va_G) (cI : ClassId) (t : Nat) (r : Nat) (tx : Nat → Int32) (n : Nat)  : Met l yX2_size (Cond.code yX2_size cX2_size 1 (some .int) :: es_T) { frames := 0, cells := 0, slots := 0, locals := 0 } (va_Pc [.ref t] (es_R D cI [(t, .inr (2, [.ref r, .int (nI n)])), (r, .inl (cI, 400, .inl tx))])) (vp_Si (fun r => r = nI n)) 0 0 (fun _ => False) := by
  refine Met.ofW (cc := cX2_size) (maxL := 1) (ret := (some .int)) (by decide) rfl ?_
  intro p e s m args below meth c s₁ B hml hv
  obtain ⟨rfl, hP, hK⟩ := hv
  have hx := B.exec
  have hb := B.bytes
  have hr := B.returns
  have hts := atoms_spec (ws := (Cond.code yX2_size cX2_size 1 (some .int) :: es_T)) B.pre
  have hw : ∀ w ∈ es_T, w.before _ s = true := fun w h => hts w (List.mem_cons_of_mem _ h)
  have hown : s.vm.findClass RX2 = some m.cls := findClass_of_methodNamed B.named
  have hlocks := B.notSynchronized
  have hRm : 0 ≤ (headSpec (Cond.code yX2_size cX2_size 1 (some .int) :: es_T) { frames := 0, cells := 0, slots := 0, locals := 0 }).room.frames ∧ 0 ≤ (headSpec (Cond.code yX2_size cX2_size 1 (some .int) :: es_T) { frames := 0, cells := 0, slots := 0, locals := 0 }).room.locals := ⟨Nat.le_refl _, Nat.le_refl _⟩
  have hRc : 0 ≤ (headSpec (Cond.code yX2_size cX2_size 1 (some .int) :: es_T) { frames := 0, cells := 0, slots := 0, locals := 0 }).room.cells ∧ 0 ≤ (headSpec (Cond.code yX2_size cX2_size 1 (some .int) :: es_T) { frames := 0, cells := 0, slots := 0, locals := 0 }).room.slots := ⟨Nat.le_refl _, Nat.le_refl _⟩
  have hl := lv_entry ([.ref t]) (n := 1) (Nat.le_of_ble_eq_true rfl)
  rw [lg_entry_eq]
  generalize (lg_sl ([.ref t]) ++ List.replicate (1 - (lg_sl ([.ref t])).length) Slot.unset).toArray = ls at hl ⊢
  have hl : lv_has ls 1 [(0, .ref t)] := hl
  refine lv_aload_n hx hb dX2_size_0 rfl (lv_at hl 0 rfl) ?_
  refine va_get (D := D) (ci := 2) (v := .int (nI n)) (C := RX2) (T := TX2) (N := 2) hx hb hw iwX2 hown hK.1 hP 0 rfl rfl 1 (by decide) (hw _ xw_121) (fun _ h9 => h9) rfl dX2_size_1 ?_
  exact W.iret (v := nI n) hx hb hr (fun zt ht hW => ⟨_, rfl, rfl, ht⟩) (fun _ h => by cases h) dX2_size_4
set_option maxHeartbeats 1000000 in
set_option maxRecDepth 100000 in
/-- X2.isEmpty  -/
theorem c_X2_isEmpty (l : Launch) (D : va_G) (cI : ClassId) (t : Nat) (r : Nat) (tx : Nat → Int32) (n : Nat) (hn : n ≤ 400) : Met l yX2_isEmpty (Cond.code yX2_isEmpty cX2_isEmpty 1 (some .boolean) :: es_T) { frames := 0, cells := 0, slots := 0, locals := 0 } (va_Pc [.ref t] (es_R D cI [(t, .inr (2, [.ref r, .int (nI n)])), (r, .inl (cI, 400, .inl tx))])) (vp_Si (fun r => r = if n = 0 then (1 : Int32) else 0)) 0 0 (fun _ => False) := by
  refine Met.ofW (cc := cX2_isEmpty) (maxL := 1) (ret := (some .boolean)) (by decide) rfl ?_
  intro p e s m args below meth c s₁ B hml hv
  obtain ⟨rfl, hP, hK⟩ := hv
  have hx := B.exec
  have hb := B.bytes
  have hr := B.returns
  have hts := atoms_spec (ws := (Cond.code yX2_isEmpty cX2_isEmpty 1 (some .boolean) :: es_T)) B.pre
  have hw : ∀ w ∈ es_T, w.before _ s = true := fun w h => hts w (List.mem_cons_of_mem _ h)
  have hown : s.vm.findClass RX2 = some m.cls := findClass_of_methodNamed B.named
  have hlocks := B.notSynchronized
  have hRm : 0 ≤ (headSpec (Cond.code yX2_isEmpty cX2_isEmpty 1 (some .boolean) :: es_T) { frames := 0, cells := 0, slots := 0, locals := 0 }).room.frames ∧ 0 ≤ (headSpec (Cond.code yX2_isEmpty cX2_isEmpty 1 (some .boolean) :: es_T) { frames := 0, cells := 0, slots := 0, locals := 0 }).room.locals := ⟨Nat.le_refl _, Nat.le_refl _⟩
  have hRc : 0 ≤ (headSpec (Cond.code yX2_isEmpty cX2_isEmpty 1 (some .boolean) :: es_T) { frames := 0, cells := 0, slots := 0, locals := 0 }).room.cells ∧ 0 ≤ (headSpec (Cond.code yX2_isEmpty cX2_isEmpty 1 (some .boolean) :: es_T) { frames := 0, cells := 0, slots := 0, locals := 0 }).room.slots := ⟨Nat.le_refl _, Nat.le_refl _⟩
  have hl := lv_entry ([.ref t]) (n := 1) (Nat.le_of_ble_eq_true rfl)
  rw [lg_entry_eq]
  generalize (lg_sl ([.ref t]) ++ List.replicate (1 - (lg_sl ([.ref t])).length) Slot.unset).toArray = ls at hl ⊢
  have hl : lv_has ls 1 [(0, .ref t)] := hl
  refine lv_aload_n hx hb dX2_isEmpty_0 rfl (lv_at hl 0 rfl) ?_
  refine va_get (D := D) (ci := 2) (v := .int (nI n)) (C := RX2) (T := TX2) (N := 2) hx hb hw iwX2 hown hK.1 hP 0 rfl rfl 1 (by decide) (hw _ xw_121) (fun _ h9 => h9) rfl dX2_isEmpty_1 ?_
  refine lv_if_ne (tgt := 11) hx hb dX2_isEmpty_4 (by decide) (fun c_4 => ?_) (fun c_4 => ?_)
  ·
    have c_4 := (mt (nI_eq (a := n) (b := 0) (by omega) (by omega)).mpr c_4)
    refine lv_iconst (v := nI 0) hx hb dX2_isEmpty_11 (by decide) ?_
    exact W.zret (v := nI 0) hx hb hr rfl (fun zt ht hW => ⟨_, rfl, (by show _ = _; first | (rw [if_pos c_4]; rfl) | (rw [if_neg c_4]; rfl)), ht⟩) (fun _ h => by cases h) dX2_isEmpty_12
  ·
    have c_4 := (nI_eq (a := n) (b := 0) (by omega) (by omega)).mp c_4
    refine lv_iconst (v := nI 1) hx hb dX2_isEmpty_7 (by decide) ?_
    refine lv_goto (tgt := 12) hx hb dX2_isEmpty_8 (by decide) ?_
    exact W.zret (v := nI 1) hx hb hr rfl (fun zt ht hW => ⟨_, rfl, (by show _ = _; first | (rw [if_pos c_4]; rfl) | (rw [if_neg c_4]; rfl)), ht⟩) (fun _ h => by cases h) dX2_isEmpty_12
set_option maxHeartbeats 1000000 in
set_option maxRecDepth 100000 in
/-- X2.at  -/
theorem c_X2_at (l : Launch) (D : va_G) (cI : ClassId) (t : Nat) (r : Nat) (tx : Nat → Int32) (n : Nat) (x : Int32) (hn : n ≤ 400) : Met l yX2_at (Cond.code yX2_at cX2_at 2 (some .int) :: es_T) { frames := 0, cells := 0, slots := 0, locals := 0 } (va_Pc [.ref t, .int x] (es_R D cI [(t, .inr (2, [.ref r, .int (nI n)])), (r, .inl (cI, 400, .inl tx))])) (vp_Si (fun r => r = if 0 ≤ x ∧ x < nI n then tx x.toNatClampNeg else -1)) 0 0 (fun _ => False) := by
  refine Met.ofW (cc := cX2_at) (maxL := 2) (ret := (some .int)) (by decide) rfl ?_
  intro p e s m args below meth c s₁ B hml hv
  obtain ⟨rfl, hP, hK⟩ := hv
  have hx := B.exec
  have hb := B.bytes
  have hr := B.returns
  have hts := atoms_spec (ws := (Cond.code yX2_at cX2_at 2 (some .int) :: es_T)) B.pre
  have hw : ∀ w ∈ es_T, w.before _ s = true := fun w h => hts w (List.mem_cons_of_mem _ h)
  have hown : s.vm.findClass RX2 = some m.cls := findClass_of_methodNamed B.named
  have hlocks := B.notSynchronized
  have hRm : 0 ≤ (headSpec (Cond.code yX2_at cX2_at 2 (some .int) :: es_T) { frames := 0, cells := 0, slots := 0, locals := 0 }).room.frames ∧ 0 ≤ (headSpec (Cond.code yX2_at cX2_at 2 (some .int) :: es_T) { frames := 0, cells := 0, slots := 0, locals := 0 }).room.locals := ⟨Nat.le_refl _, Nat.le_refl _⟩
  have hRc : 0 ≤ (headSpec (Cond.code yX2_at cX2_at 2 (some .int) :: es_T) { frames := 0, cells := 0, slots := 0, locals := 0 }).room.cells ∧ 0 ≤ (headSpec (Cond.code yX2_at cX2_at 2 (some .int) :: es_T) { frames := 0, cells := 0, slots := 0, locals := 0 }).room.slots := ⟨Nat.le_refl _, Nat.le_refl _⟩
  have hl := lv_entry ([.ref t, .int x]) (n := 2) (Nat.le_of_ble_eq_true rfl)
  rw [lg_entry_eq]
  generalize (lg_sl ([.ref t, .int x]) ++ List.replicate (2 - (lg_sl ([.ref t, .int x])).length) Slot.unset).toArray = ls at hl ⊢
  have hl : lv_has ls 2 [(0, .ref t), (1, .int x)] := hl
  refine lv_iload_n hx hb dX2_at_0 rfl (lv_at hl 1 rfl) ?_
  refine lv_if_lt (tgt := 21) hx hb dX2_at_1 (by decide) (fun c_1 => ?_) (fun c_1 => ?_)
  ·
    refine lv_iconst (v := (-1)) hx hb dX2_at_21 (by decide) ?_
    exact W.iret (v := (-1)) hx hb hr (fun zt ht hW => ⟨_, rfl, (by show _ = _; first | (rw [if_pos ⟨Int32.not_lt.mp c_1, Int32.not_le.mp c_9⟩]; done) | (rw [if_neg (fun h => absurd c_1 (Int32.not_lt.mpr h.1))]; done) | (rw [if_neg (fun h => absurd h.2 (Int32.not_lt.mpr c_9))]; done)), ht⟩) (fun _ h => by cases h) dX2_at_22
  ·
    refine lv_iload_n hx hb dX2_at_4 rfl (lv_at hl 1 rfl) ?_
    refine lv_aload_n hx hb dX2_at_5 rfl (lv_at hl 0 rfl) ?_
    refine va_get (D := D) (ci := 2) (v := .int (nI n)) (C := RX2) (T := TX2) (N := 2) hx hb hw iwX2 hown hK.1 hP 0 rfl rfl 1 (by decide) (hw _ xw_121) (fun _ h9 => h9) rfl dX2_at_6 ?_
    refine lv_icmp_ge (tgt := 21) hx hb dX2_at_9 (by decide) (fun c_9 => ?_) (fun c_9 => ?_)
    ·
      refine lv_iconst (v := (-1)) hx hb dX2_at_21 (by decide) ?_
      exact W.iret (v := (-1)) hx hb hr (fun zt ht hW => ⟨_, rfl, (by show _ = _; first | (rw [if_pos ⟨Int32.not_lt.mp c_1, Int32.not_le.mp c_9⟩]; done) | (rw [if_neg (fun h => absurd c_1 (Int32.not_lt.mpr h.1))]; done) | (rw [if_neg (fun h => absurd h.2 (Int32.not_lt.mpr c_9))]; done)), ht⟩) (fun _ h => by cases h) dX2_at_22
    ·
      refine lv_aload_n hx hb dX2_at_12 rfl (lv_at hl 0 rfl) ?_
      refine va_get (D := D) (ci := 2) (v := .ref r) (C := RX2) (T := TX2) (N := 2) hx hb hw iwX2 hown hK.1 hP 0 rfl rfl 0 (by decide) (hw _ xw_122) (fun _ h9 => h9) rfl dX2_at_13 ?_
      refine lv_iload_n hx hb dX2_at_16 rfl (lv_at hl 1 rfl) ?_
      refine va_iald hx hb hK.1 hP 1 0 rfl rfl (es_vin ⟨Int32.not_lt.mp c_1, Int32.not_le.mp c_9⟩ hn (by decide)) dX2_at_17 ?_
      refine lv_goto (tgt := 22) hx hb dX2_at_18 (by decide) ?_
      exact W.iret (v := tx (x).toNatClampNeg) hx hb hr (fun zt ht hW => ⟨_, rfl, (by show _ = _; first | (rw [if_pos ⟨Int32.not_lt.mp c_1, Int32.not_le.mp c_9⟩]; done) | (rw [if_neg (fun h => absurd c_1 (Int32.not_lt.mpr h.1))]; done) | (rw [if_neg (fun h => absurd h.2 (Int32.not_lt.mpr c_9))]; done)), ht⟩) (fun _ h => by cases h) dX2_at_22
set_option maxHeartbeats 1000000 in
set_option maxRecDepth 100000 in
/-- X2.canReplace  -/
theorem c_X2_canReplace (l : Launch) (D : va_G) (cI : ClassId) (t : Nat) (r : Nat) (tx : Nat → Int32) (n : Nat) (pl : Int32) (ou : Int32) (pu : Int32)  : Met l yX2_canReplace (Cond.code yX2_canReplace cX2_canReplace 4 (some .boolean) :: es_T) { frames := 0, cells := 0, slots := 0, locals := 0 } (va_Pc [.ref t, .int pl, .int ou, .int pu] (es_R D cI [(t, .inr (2, [.ref r, .int (nI n)])), (r, .inl (cI, 400, .inl tx))])) (vp_Si (fun r => r = if es_can n pl ou pu then (1 : Int32) else 0)) 0 0 (fun _ => False) := by
  refine Met.ofW (cc := cX2_canReplace) (maxL := 4) (ret := (some .boolean)) (by decide) rfl ?_
  intro p e s m args below meth c s₁ B hml hv
  obtain ⟨rfl, hP, hK⟩ := hv
  have hx := B.exec
  have hb := B.bytes
  have hr := B.returns
  have hts := atoms_spec (ws := (Cond.code yX2_canReplace cX2_canReplace 4 (some .boolean) :: es_T)) B.pre
  have hw : ∀ w ∈ es_T, w.before _ s = true := fun w h => hts w (List.mem_cons_of_mem _ h)
  have hown : s.vm.findClass RX2 = some m.cls := findClass_of_methodNamed B.named
  have hlocks := B.notSynchronized
  have hRm : 0 ≤ (headSpec (Cond.code yX2_canReplace cX2_canReplace 4 (some .boolean) :: es_T) { frames := 0, cells := 0, slots := 0, locals := 0 }).room.frames ∧ 0 ≤ (headSpec (Cond.code yX2_canReplace cX2_canReplace 4 (some .boolean) :: es_T) { frames := 0, cells := 0, slots := 0, locals := 0 }).room.locals := ⟨Nat.le_refl _, Nat.le_refl _⟩
  have hRc : 0 ≤ (headSpec (Cond.code yX2_canReplace cX2_canReplace 4 (some .boolean) :: es_T) { frames := 0, cells := 0, slots := 0, locals := 0 }).room.cells ∧ 0 ≤ (headSpec (Cond.code yX2_canReplace cX2_canReplace 4 (some .boolean) :: es_T) { frames := 0, cells := 0, slots := 0, locals := 0 }).room.slots := ⟨Nat.le_refl _, Nat.le_refl _⟩
  have hl := lv_entry ([.ref t, .int pl, .int ou, .int pu]) (n := 4) (Nat.le_of_ble_eq_true rfl)
  rw [lg_entry_eq]
  generalize (lg_sl ([.ref t, .int pl, .int ou, .int pu]) ++ List.replicate (4 - (lg_sl ([.ref t, .int pl, .int ou, .int pu])).length) Slot.unset).toArray = ls at hl ⊢
  have hl : lv_has ls 4 [(0, .ref t), (1, .int pl), (2, .int ou), (3, .int pu)] := hl
  refine lv_iload_n hx hb dX2_canReplace_0 rfl (lv_at hl 3 rfl) ?_
  refine lv_if_lt (tgt := 54) hx hb dX2_canReplace_1 (by decide) (fun c_1 => ?_) (fun c_1 => ?_)
  ·
    refine lv_iconst (v := nI 0) hx hb dX2_canReplace_54 (by decide) ?_
    exact W.zret (v := nI 0) hx hb hr rfl (fun zt ht hW => ⟨_, rfl, (by show _ = _; rw [if_neg (fun h => by exact absurd c_1 (Int32.not_lt.mpr h.1))]; rfl), ht⟩) (fun _ h => by cases h) dX2_canReplace_55
  ·
    refine lv_iload_n hx hb dX2_canReplace_4 rfl (lv_at hl 3 rfl) ?_
    refine lv_bipush (v := nI 16) hx hb dX2_canReplace_5 (by decide) ?_
    refine lv_icmp_gt (tgt := 54) hx hb dX2_canReplace_7 (by decide) (fun c_7 => ?_) (fun c_7 => ?_)
    ·
      refine lv_iconst (v := nI 0) hx hb dX2_canReplace_54 (by decide) ?_
      exact W.zret (v := nI 0) hx hb hr rfl (fun zt ht hW => ⟨_, rfl, (by show _ = _; rw [if_neg (fun h => by exact absurd h.2.1 (Int32.not_le.mpr c_7))]; rfl), ht⟩) (fun _ h => by cases h) dX2_canReplace_55
    ·
      refine lv_iload_n hx hb dX2_canReplace_10 rfl (lv_at hl 1 rfl) ?_
      refine lv_if_lt (tgt := 54) hx hb dX2_canReplace_11 (by decide) (fun c_11 => ?_) (fun c_11 => ?_)
      ·
        refine lv_iconst (v := nI 0) hx hb dX2_canReplace_54 (by decide) ?_
        exact W.zret (v := nI 0) hx hb hr rfl (fun zt ht hW => ⟨_, rfl, (by show _ = _; rw [if_neg (fun h => by exact absurd c_11 (Int32.not_lt.mpr h.2.2.1))]; rfl), ht⟩) (fun _ h => by cases h) dX2_canReplace_55
      ·
        refine lv_iload_n hx hb dX2_canReplace_14 rfl (lv_at hl 1 rfl) ?_
        refine lv_aload_n hx hb dX2_canReplace_15 rfl (lv_at hl 0 rfl) ?_
        refine va_get (D := D) (ci := 2) (v := .int (nI n)) (C := RX2) (T := TX2) (N := 2) hx hb hw iwX2 hown hK.1 hP 0 rfl rfl 1 (by decide) (hw _ xw_121) (fun _ h9 => h9) rfl dX2_canReplace_16 ?_
        refine lv_icmp_gt (tgt := 54) hx hb dX2_canReplace_19 (by decide) (fun c_19 => ?_) (fun c_19 => ?_)
        ·
          refine lv_iconst (v := nI 0) hx hb dX2_canReplace_54 (by decide) ?_
          exact W.zret (v := nI 0) hx hb hr rfl (fun zt ht hW => ⟨_, rfl, (by show _ = _; rw [if_neg (fun h => by exact absurd h.2.2.2.1 (Int32.not_le.mpr c_19))]; rfl), ht⟩) (fun _ h => by cases h) dX2_canReplace_55
        ·
          refine lv_iload_n hx hb dX2_canReplace_22 rfl (lv_at hl 2 rfl) ?_
          refine lv_if_lt (tgt := 54) hx hb dX2_canReplace_23 (by decide) (fun c_23 => ?_) (fun c_23 => ?_)
          ·
            refine lv_iconst (v := nI 0) hx hb dX2_canReplace_54 (by decide) ?_
            exact W.zret (v := nI 0) hx hb hr rfl (fun zt ht hW => ⟨_, rfl, (by show _ = _; rw [if_neg (fun h => by exact absurd c_23 (Int32.not_lt.mpr h.2.2.2.2.1))]; rfl), ht⟩) (fun _ h => by cases h) dX2_canReplace_55
          ·
            refine lv_iload_n hx hb dX2_canReplace_26 rfl (lv_at hl 2 rfl) ?_
            refine lv_aload_n hx hb dX2_canReplace_27 rfl (lv_at hl 0 rfl) ?_
            refine va_get (D := D) (ci := 2) (v := .int (nI n)) (C := RX2) (T := TX2) (N := 2) hx hb hw iwX2 hown hK.1 hP 0 rfl rfl 1 (by decide) (hw _ xw_121) (fun _ h9 => h9) rfl dX2_canReplace_28 ?_
            refine lv_iload_n hx hb dX2_canReplace_31 rfl (lv_at hl 1 rfl) ?_
            refine lv_isub hx hb dX2_canReplace_32 ?_
            refine lv_icmp_gt (tgt := 54) hx hb dX2_canReplace_33 (by decide) (fun c_33 => ?_) (fun c_33 => ?_)
            ·
              refine lv_iconst (v := nI 0) hx hb dX2_canReplace_54 (by decide) ?_
              exact W.zret (v := nI 0) hx hb hr rfl (fun zt ht hW => ⟨_, rfl, (by show _ = _; rw [if_neg (fun h => by exact absurd h.2.2.2.2.2.1 (Int32.not_le.mpr c_33))]; rfl), ht⟩) (fun _ h => by cases h) dX2_canReplace_55
            ·
              refine lv_aload_n hx hb dX2_canReplace_36 rfl (lv_at hl 0 rfl) ?_
              refine va_get (D := D) (ci := 2) (v := .int (nI n)) (C := RX2) (T := TX2) (N := 2) hx hb hw iwX2 hown hK.1 hP 0 rfl rfl 1 (by decide) (hw _ xw_121) (fun _ h9 => h9) rfl dX2_canReplace_37 ?_
              refine lv_iload_n hx hb dX2_canReplace_40 rfl (lv_at hl 2 rfl) ?_
              refine lv_isub hx hb dX2_canReplace_41 ?_
              refine lv_iload_n hx hb dX2_canReplace_42 rfl (lv_at hl 3 rfl) ?_
              refine lv_iadd hx hb dX2_canReplace_43 ?_
              refine lv_sipush (v := nI 400) hx hb dX2_canReplace_44 (by decide) ?_
              refine lv_icmp_gt (tgt := 54) hx hb dX2_canReplace_47 (by decide) (fun c_47 => ?_) (fun c_47 => ?_)
              ·
                refine lv_iconst (v := nI 0) hx hb dX2_canReplace_54 (by decide) ?_
                exact W.zret (v := nI 0) hx hb hr rfl (fun zt ht hW => ⟨_, rfl, (by show _ = _; rw [if_neg (fun h => by exact absurd h.2.2.2.2.2.2 (Int32.not_le.mpr c_47))]; rfl), ht⟩) (fun _ h => by cases h) dX2_canReplace_55
              ·
                refine lv_iconst (v := nI 1) hx hb dX2_canReplace_50 (by decide) ?_
                refine lv_goto (tgt := 55) hx hb dX2_canReplace_51 (by decide) ?_
                exact W.zret (v := nI 1) hx hb hr rfl (fun zt ht hW => ⟨_, rfl, (by show _ = _; rw [if_pos ⟨Int32.not_lt.mp c_1, Int32.not_lt.mp c_7, Int32.not_lt.mp c_11, Int32.not_lt.mp c_19, Int32.not_lt.mp c_23, Int32.not_lt.mp c_33, Int32.not_lt.mp c_47⟩]; rfl), ht⟩) (fun _ h => by cases h) dX2_canReplace_55
set_option maxHeartbeats 1000000 in
set_option maxRecDepth 100000 in
/-- X3.unpack  -/
theorem c_X3_unpack (l : Launch) (D : va_G) (cI : ClassId) (sy : Int64) (cn : Nat) (j : Nat) (hc : cn ≤ 16) (hj : j < cn) : Met l yX3_unpack (Cond.code yX3_unpack cX3_unpack 4 (some .int) :: es_T) { frames := 0, cells := 0, slots := 0, locals := 0 } (va_Pc [.long sy, .int (nI cn), .int (nI j)] (es_R D cI [])) (vp_Si (fun r => r = nI (es_dg sy (cn - 1 - j)))) 0 0 (fun _ => False) := by
  refine Met.ofW (cc := cX3_unpack) (maxL := 4) (ret := (some .int)) (by decide) rfl ?_
  intro p e s m args below meth c s₁ B hml hv
  obtain ⟨rfl, hP, hK⟩ := hv
  have hx := B.exec
  have hb := B.bytes
  have hr := B.returns
  have hts := atoms_spec (ws := (Cond.code yX3_unpack cX3_unpack 4 (some .int) :: es_T)) B.pre
  have hw : ∀ w ∈ es_T, w.before _ s = true := fun w h => hts w (List.mem_cons_of_mem _ h)
  have hown : s.vm.findClass RX3 = some m.cls := findClass_of_methodNamed B.named
  have hlocks := B.notSynchronized
  have hRm : 0 ≤ (headSpec (Cond.code yX3_unpack cX3_unpack 4 (some .int) :: es_T) { frames := 0, cells := 0, slots := 0, locals := 0 }).room.frames ∧ 0 ≤ (headSpec (Cond.code yX3_unpack cX3_unpack 4 (some .int) :: es_T) { frames := 0, cells := 0, slots := 0, locals := 0 }).room.locals := ⟨Nat.le_refl _, Nat.le_refl _⟩
  have hRc : 0 ≤ (headSpec (Cond.code yX3_unpack cX3_unpack 4 (some .int) :: es_T) { frames := 0, cells := 0, slots := 0, locals := 0 }).room.cells ∧ 0 ≤ (headSpec (Cond.code yX3_unpack cX3_unpack 4 (some .int) :: es_T) { frames := 0, cells := 0, slots := 0, locals := 0 }).room.slots := ⟨Nat.le_refl _, Nat.le_refl _⟩
  have hl := lv_entry ([.long sy, .int (nI cn), .int (nI j)]) (n := 4) (Nat.le_of_ble_eq_true rfl)
  rw [lg_entry_eq]
  generalize (lg_sl ([.long sy, .int (nI cn), .int (nI j)]) ++ List.replicate (4 - (lg_sl ([.long sy, .int (nI cn), .int (nI j)])).length) Slot.unset).toArray = ls at hl ⊢
  have hl : lv_has ls 4 [(0, .long sy), (2, .int (nI cn)), (3, .int (nI j))] := hl
  refine lv_lload_n hx hb dX3_unpack_0 rfl (lv_at hl 0 rfl) ?_
  refine lv_iconst (v := nI 4) hx hb dX3_unpack_1 (by decide) ?_
  refine lv_iload_n hx hb dX3_unpack_2 rfl (lv_at hl 1 rfl) ?_
  refine lv_iconst (v := nI 1) hx hb dX3_unpack_3 (by decide) ?_
  refine lv_isub hx hb dX3_unpack_4 ?_
  refine es_top (y := nI (cn - 1)) (pk_sub (by omega)) ?_
  refine lv_iload_n hx hb dX3_unpack_5 rfl (lv_at hl 2 rfl) ?_
  refine lv_isub hx hb dX3_unpack_6 ?_
  refine es_top (y := nI ((cn - 1) - j)) (pk_sub (by omega)) ?_
  refine lv_imul hx hb dX3_unpack_7 ?_
  refine es_top (y := nI (4 * ((cn - 1) - j))) (pk_mul _ _) ?_
  refine lv_lushr hx hb dX3_unpack_8 rfl ?_
  refine lv_l2i hx hb dX3_unpack_9 rfl ?_
  refine lv_bipush (v := nI 15) hx hb dX3_unpack_10 (by decide) ?_
  refine lv_iand hx hb dX3_unpack_12 ?_
  refine es_top (y := nI (es_dg sy (cn - 1 - j))) (es_unp (by omega)) ?_
  exact W.iret (v := nI (es_dg sy (cn - 1 - j))) hx hb hr (fun zt ht hW => ⟨_, rfl, rfl, ht⟩) (fun _ h => by cases h) dX3_unpack_13
set_option maxHeartbeats 1000000 in
set_option maxRecDepth 100000 in
theorem lp_areSymbols {p : Program} {l : Launch} {e : Env} {R : Room} {s : State} {m : MethodId} {args : Array Value} {below : List Frame} {meth : Method} {c : Code} {Q : State → Prop} {H : Heap} {locs : List Loc} (D : va_G) (cI : ClassId) (sy : Int64) (cn : Nat) (hx : p.tables.exec = Jvm.exec) (hb : c.code = cX3_areSymbols) (hml : c.maxLocals = 4) (hown : s.vm.findClass RX3 = some m.cls) (hw : ∀ w ∈ es_T, w.before args s = true) (hK : es_K D cI s) (hRm : 1 ≤ R.frames ∧ 23 ≤ R.locals) (hP : va_P D vwCl [] H) (hc : cn ≤ 16) (hx1 : ∀ (i : Nat), (i < cn) → (¬ es_dg sy (cn - 1 - i) < 10) → ∀ (ls : Array Slot), lv_has ls 4 [(3, .int (nI i))] →  W p l e R s m args below meth c H locs 0 0 Q (F0 m 18 ls [])) (hx2 : ∀ (_ : Unit), (∀ j, j < cn → es_dg sy (cn - 1 - j) < 10) → ∀ (ls : Array Slot), lv_has ls 4 [(0, .long sy)] →  W p l e R s m args below meth c H locs 0 0 Q (F0 m 26 ls [])) : ∀ (N : Nat) (i : Nat), (i ≤ cn) → (∀ j, j < i → es_dg sy (cn - 1 - j) < 10) → (cn - i) < N → ∀ (ls : Array Slot), lv_has ls 4 [(0, .long sy), (2, .int (nI cn)), (3, .int (nI i))] →  W p l e R s m args below meth c H locs 0 0 Q (F0 m 2 ls []) := by
  intro N
  induction N with
  | zero =>
    intro i hi hj hN
    exact absurd hN (Nat.not_lt_zero _)
  | succ N ih =>
    intro i hi hj hN ls hl
    refine lv_iload_n hx hb dX3_areSymbols_2 rfl (lv_at hl 2 rfl) ?_
    refine lv_iload_n hx hb dX3_areSymbols_3 rfl (lv_at hl 1 rfl) ?_
    refine lv_icmp_ge (tgt := 26) hx hb dX3_areSymbols_4 (by decide) (fun c_4 => ?_) (fun c_4 => ?_)
    ·
      have c_4 := (nI_leI (by omega) (by omega)).mp c_4
      exact hx2 () (fun j h => hj j (by omega))  ls (lv_sub hl [0] rfl)
    ·
      have c_4 := (mt (nI_leI (by omega) (by omega)).mpr c_4)
      refine lv_lload_n hx hb dX3_areSymbols_7 rfl (lv_at hl 0 rfl) ?_
      refine lv_iload_n hx hb dX3_areSymbols_8 rfl (lv_at hl 1 rfl) ?_
      refine lv_iload_n hx hb dX3_areSymbols_9 rfl (lv_at hl 2 rfl) ?_
      refine vp_callSi (va_Run.run (va_runS (As := [.long sy, .int (nI cn), .int (nI i)]) (rest := []) ⟨hx, hb, hml, hown, hw⟩ (c_X3_unpack l D cI sy cn i (by first | assumption | omega) (by first | assumption | omega)) (cwS 3 hw (es_s xw_133 xw_135 xw_134 xw_2) rfl rfl rfl kv_X3_unpack ⟨Nat.le_trans (Nat.le_of_ble_eq_true rfl) hRm.1, Nat.le_trans (Nat.le_of_ble_eq_true rfl) hRm.2⟩) (es_RS hK (hP.sub (ws' := []) [] rfl)) rfl rfl hl.1 rfl (lv_room (Nat.le_of_ble_eq_true rfl)) dX3_areSymbols_10 ⟨(Nat.zero_le _), (Nat.zero_le _)⟩)) (fun r_1 er_1 => ?_)
      obtain rfl : r_1 = nI (es_dg sy (cn - 1 - i)) := er_1
      have hdl := es_dg_lt sy (cn - 1 - i)
      refine lv_bipush (v := nI 10) hx hb dX3_areSymbols_13 (by decide) ?_
      refine lv_icmp_lt (tgt := 20) hx hb dX3_areSymbols_15 (by decide) (fun c_15 => ?_) (fun c_15 => ?_)
      ·
        have c_15 := (nI_ltI (by omega) (by omega)).mp c_15
        refine lv_iinc (v := nI (i + 1)) (lv' := [(3, .int (nI (i + 1))), (0, .long sy), (2, .int (nI cn))]) hx hb dX3_areSymbols_20 hl (k := 2) rfl (nI_1 _) (by decide) rfl (fun ls hl => ?_)
        refine lv_goto (tgt := 2) hx hb dX3_areSymbols_23 (by decide) ?_
        exact ih (i + 1) (by first | assumption | omega) (lt_s hj c_15) (by omega) ls (lv_sub hl [1, 2, 0] rfl)
      ·
        have c_15 := (mt (nI_ltI (by omega) (by omega)).mpr c_15)
        exact hx1 i (by first | assumption | omega) (by first | assumption | omega)  ls (lv_sub hl [2] rfl)
set_option maxHeartbeats 1000000 in
set_option maxRecDepth 100000 in
/-- X3.areSymbols  -/
theorem c_X3_areSymbols (l : Launch) (D : va_G) (cI : ClassId) (sy : Int64) (cn : Nat) (hc : cn ≤ 16) : Met l yX3_areSymbols (Cond.code yX3_areSymbols cX3_areSymbols 4 (some .boolean) :: es_T) { frames := 1, cells := 0, slots := 0, locals := 23 } (va_Pc [.long sy, .int (nI cn)] (es_R D cI [])) (vp_Si (fun r => (r = nI 1 ∧ ∀ j, j < cn → es_dg sy j < 10) ∨ (r = nI 0 ∧ ∃ j, j < cn ∧ ¬ es_dg sy j < 10))) 0 0 (fun _ => False) := by
  refine Met.ofW (cc := cX3_areSymbols) (maxL := 4) (ret := (some .boolean)) (by decide) rfl ?_
  intro p e s m args below meth c s₁ B hml hv
  obtain ⟨rfl, hP, hK⟩ := hv
  have hx := B.exec
  have hb := B.bytes
  have hr := B.returns
  have hts := atoms_spec (ws := (Cond.code yX3_areSymbols cX3_areSymbols 4 (some .boolean) :: es_T)) B.pre
  have hw : ∀ w ∈ es_T, w.before _ s = true := fun w h => hts w (List.mem_cons_of_mem _ h)
  have hown : s.vm.findClass RX3 = some m.cls := findClass_of_methodNamed B.named
  have hlocks := B.notSynchronized
  have hRm : 1 ≤ (headSpec (Cond.code yX3_areSymbols cX3_areSymbols 4 (some .boolean) :: es_T) { frames := 1, cells := 0, slots := 0, locals := 23 }).room.frames ∧ 23 ≤ (headSpec (Cond.code yX3_areSymbols cX3_areSymbols 4 (some .boolean) :: es_T) { frames := 1, cells := 0, slots := 0, locals := 23 }).room.locals := ⟨Nat.le_refl _, Nat.le_refl _⟩
  have hRc : 0 ≤ (headSpec (Cond.code yX3_areSymbols cX3_areSymbols 4 (some .boolean) :: es_T) { frames := 1, cells := 0, slots := 0, locals := 23 }).room.cells ∧ 0 ≤ (headSpec (Cond.code yX3_areSymbols cX3_areSymbols 4 (some .boolean) :: es_T) { frames := 1, cells := 0, slots := 0, locals := 23 }).room.slots := ⟨Nat.le_refl _, Nat.le_refl _⟩
  have hl := lv_entry ([.long sy, .int (nI cn)]) (n := 4) (Nat.le_of_ble_eq_true rfl)
  rw [lg_entry_eq]
  generalize (lg_sl ([.long sy, .int (nI cn)]) ++ List.replicate (4 - (lg_sl ([.long sy, .int (nI cn)])).length) Slot.unset).toArray = ls at hl ⊢
  have hl : lv_has ls 4 [(0, .long sy), (2, .int (nI cn))] := hl
  refine lv_iconst (v := nI 0) hx hb dX3_areSymbols_0 (by decide) ?_
  refine lv_istore_n (lv' := [(3, .int (nI 0)), (0, .long sy), (2, .int (nI cn))]) hx hb dX3_areSymbols_1 rfl hl (by decide) rfl (fun ls hl => ?_)
  refine lp_areSymbols D cI sy cn hx hb hml hown hw hK ⟨Nat.le_trans (Nat.le_of_ble_eq_true rfl) hRm.1, Nat.le_trans (Nat.le_of_ble_eq_true rfl) hRm.2⟩ hP (by first | assumption | omega) (fun i hi hb_ ls hl => ?_) (fun _ hj ls hl => ?_) ((cn - 0) + 1) 0 (by first | assumption | omega) (fun j h => absurd h (Nat.not_lt_zero _)) (Nat.lt_succ_self _) ls (lv_sub hl [1, 2, 0] rfl)
  ·
    refine lv_iconst (v := nI 0) hx hb dX3_areSymbols_18 (by decide) ?_
    exact W.zret (v := nI 0) hx hb hr rfl (fun zt ht hW => ⟨_, rfl, Or.inr ⟨rfl, cn - 1 - i, by omega, hb_⟩, ht⟩) (fun _ h => by cases h) dX3_areSymbols_19
  ·
    refine lv_iconst (v := nI 1) hx hb dX3_areSymbols_26 (by decide) ?_
    exact W.zret (v := nI 1) hx hb hr rfl (fun zt ht hW => ⟨_, rfl, (Or.inl ⟨rfl, fun j h => by have h2 := hj (cn - 1 - j) (by omega); rwa [show cn - 1 - (cn - 1 - j) = j by omega] at h2⟩), ht⟩) (fun _ h => by cases h) dX3_areSymbols_27
set_option maxHeartbeats 1000000 in
set_option maxRecDepth 100000 in
theorem lp_replace {p : Program} {l : Launch} {e : Env} {R : Room} {s : State} {m : MethodId} {args : Array Value} {below : List Frame} {meth : Method} {c : Code} {Q : State → Prop} {A : Nat → Prop} {H0 : Heap} (D : va_G) (cI : ClassId) (t : Nat) (r : Nat) (tx : Nat → Int32) (n : Nat) (pl : Nat) (ou : Nat) (sy : Int64) (cn : Nat) (cp : Nat → Int32) (hx : p.tables.exec = Jvm.exec) (hb : c.code = cX2_replace) (hml : c.maxLocals = 7) (hown : s.vm.findClass RX2 = some m.cls) (hw : ∀ w ∈ es_T, w.before args s = true) (hK : es_K D cI s) (hRm : 1 ≤ R.frames ∧ 48 ≤ R.locals) (hA : ∀ q : Nat, H0.size ≤ q → A q) (hn : n ≤ 400) (h1 : pl + ou ≤ n) (h2 : cn ≤ 16) (h3 : n - ou + cn ≤ 400) (hex : ∀ (E : Nat → Int32), (es_rpi cp E pl sy cn cn) → ∀ (H : Heap) (locs : List Loc), va_P D vwCl [(t, .inr (2, [.ref r, .int (nI n)])), (r, .inl (cI, 400, .inl E))] H → va_D A [(t, .inr (2, [.ref r, .int (nI n)])), (r, .inl (cI, 400, .inl E))] → va_S A H0 H locs → ∀ (ls : Array Slot), lv_has ls 7 [(0, .ref t), (2, .int (nI ou)), (5, .int (nI cn))] →  W p l e R s m args below meth c H locs 0 0 Q (F0 m 71 ls [])) : ∀ (N : Nat) (i : Nat) (E : Nat → Int32), (i ≤ cn) → (es_rpi cp E pl sy cn i) → (cn - i) < N → ∀ (H : Heap) (locs : List Loc), va_P D vwCl [(t, .inr (2, [.ref r, .int (nI n)])), (r, .inl (cI, 400, .inl E))] H → va_D A [(t, .inr (2, [.ref r, .int (nI n)])), (r, .inl (cI, 400, .inl E))] → va_S A H0 H locs → ∀ (ls : Array Slot), lv_has ls 7 [(0, .ref t), (1, .int (nI pl)), (2, .int (nI ou)), (3, .long sy), (5, .int (nI cn)), (6, .int (nI i))] →  W p l e R s m args below meth c H locs 0 0 Q (F0 m 41 ls []) := by
  intro N
  induction N with
  | zero =>
    intro i E hi hj hN
    exact absurd hN (Nat.not_lt_zero _)
  | succ N ih =>
    intro i E hi hj hN H locs hP hD hS ls hl
    refine lv_iload hx hb dX2_replace_41 (lv_at hl 5 rfl) ?_
    refine lv_iload hx hb dX2_replace_43 (lv_at hl 4 rfl) ?_
    refine lv_icmp_ge (tgt := 71) hx hb dX2_replace_45 (by decide) (fun c_45 => ?_) (fun c_45 => ?_)
    ·
      have c_45 := (nI_leI (by omega) (by omega)).mp c_45
      exact hex E (by rw [show cn = i by omega]; rw [show cn = i by omega] at hj; exact hj)  H locs (hP.sub [0, 1] rfl) (hD.sub [0, 1] (by decide) rfl) hS ls (lv_sub hl [0, 2, 4] rfl)
    ·
      have c_45 := (mt (nI_leI (by omega) (by omega)).mpr c_45)
      refine lv_aload_n hx hb dX2_replace_48 rfl (lv_at hl 0 rfl) ?_
      refine va_get (D := D) (ci := 2) (v := .ref r) (C := RX2) (T := TX2) (N := 2) hx hb hw iwX2 hown hK.1 hP 0 rfl rfl 0 (by decide) (hw _ xw_122) (fun _ h9 => h9) rfl dX2_replace_49 ?_
      refine lv_iload_n hx hb dX2_replace_52 rfl (lv_at hl 1 rfl) ?_
      refine lv_iload hx hb dX2_replace_53 (lv_at hl 5 rfl) ?_
      refine lv_iadd hx hb dX2_replace_55 ?_
      refine es_top (y := nI (pl + i)) (nI_add _ _) ?_
      refine lv_lload_n hx hb dX2_replace_56 rfl (lv_at hl 3 rfl) ?_
      refine lv_iload hx hb dX2_replace_57 (lv_at hl 4 rfl) ?_
      refine lv_iload hx hb dX2_replace_59 (lv_at hl 5 rfl) ?_
      refine vp_callSi (va_Run.run (va_runSN (As := [.long sy, .int (nI cn), .int (nI i)]) (rest := [.int (nI (pl + i)), .ref r]) ⟨hx, hb, hml, hown, hw⟩ (c_X3_unpack l D cI sy cn i (by first | assumption | omega) (by first | assumption | omega)) ⟨va_cnB 3 hw (es_c xw_133) rfl rfl rfl hK.2.2.2 (hw _ xw_2) k0_X3_unpack ⟨Nat.le_trans (Nat.le_of_ble_eq_true rfl) hRm.1, Nat.le_trans (Nat.le_of_ble_eq_true rfl) hRm.2⟩, (hw _ xw_134), trivial⟩ (es_RS hK (hP.sub (ws' := []) [] rfl)) rfl rfl hl.1 rfl (lv_room (Nat.le_of_ble_eq_true rfl)) dX2_replace_61 ⟨(Nat.zero_le _), (Nat.zero_le _)⟩)) (fun r_1 er_1 => ?_)
      obtain rfl : r_1 = nI (es_dg sy (cn - 1 - i)) := er_1
      refine es_iast hx hb hK.1 hP hD hS 1 0 rfl rfl (by omega) (Nat.le_of_ble_eq_true rfl) dX2_replace_64 (fun H locs hP hD hS => ?_)
      have hP : va_P D vwCl [(t, .inr (2, [.ref r, .int (nI n)])), (r, .inl (cI, 400, .inl (upd E (pl + i) (nI (es_dg sy (cn - 1 - i))))))] H := hP
      have hD : va_D A [(t, .inr (2, [.ref r, .int (nI n)])), (r, .inl (cI, 400, .inl (upd E (pl + i) (nI (es_dg sy (cn - 1 - i))))))] := hD
      refine lv_iinc (v := nI (i + 1)) (lv' := [(6, .int (nI (i + 1))), (0, .ref t), (1, .int (nI pl)), (2, .int (nI ou)), (3, .long sy), (5, .int (nI cn))]) hx hb dX2_replace_65 hl (k := 5) rfl (nI_1 _) (by decide) rfl (fun ls hl => ?_)
      refine lv_goto (tgt := 41) hx hb dX2_replace_68 (by decide) ?_
      exact ih (i + 1) (upd E (pl + i) (nI (es_dg sy (cn - 1 - i)))) (by first | assumption | omega) (es_rpi_s hj (by omega)) (by omega) H locs (hP.sub [0, 1] rfl) (hD.sub [0, 1] (by decide) rfl) hS ls (lv_sub hl [1, 2, 3, 4, 5, 0] rfl)
set_option maxHeartbeats 1000000 in
set_option maxRecDepth 100000 in
/-- X2.replace  -/
theorem c_X2_replace (l : Launch) (D : va_G) (cI : ClassId) (sz : Nat) (t : Nat) (r : Nat) (tx : Nat → Int32) (n : Nat) (pl : Nat) (ou : Nat) (sy : Int64) (cn : Nat) (hn : n ≤ 400) (h1 : pl + ou ≤ n) (h2 : cn ≤ 16) (h3 : n - ou + cn ≤ 400) : Met l yX2_replace (Cond.code yX2_replace cX2_replace 7 none :: es_T) { frames := 1, cells := 0, slots := 0, locals := 48 } (va_Pc [.ref t, .int (nI pl), .int (nI ou), .long sy, .int (nI cn)] (es_W D cI sz [(t, .inr (2, [.ref r, .int (nI n)])), (r, .inl (cI, 400, .inl tx))])) (va_Qv (fun u => es_rep tx u n pl ou sy cn) (fun (u : Nat → Int32) zt => va_P D vwCl [(t, .inr (2, [.ref r, .int (nI (n - ou + cn))])), (r, .inl (cI, 400, .inl u))] zt.heap ∧ va_D (va_A [(t, .inr (2, [.ref r, .int (nI n)])), (r, .inl (cI, 400, .inl tx))] sz) [(t, .inr (2, [.ref r, .int (nI (n - ou + cn))])), (r, .inl (cI, 400, .inl u))]) (va_A [(t, .inr (2, [.ref r, .int (nI n)])), (r, .inl (cI, 400, .inl tx))] sz)) 0 0 (va_A [(t, .inr (2, [.ref r, .int (nI n)])), (r, .inl (cI, 400, .inl tx))] sz) := by
  refine Met.ofW (cc := cX2_replace) (maxL := 7) (ret := none) (by decide) rfl ?_
  intro p e s m args below meth c s₁ B hml hv
  obtain ⟨rfl, hsz, hP, hK, hD0⟩ := hv
  have hx := B.exec
  have hb := B.bytes
  have hr := B.returns
  have hts := atoms_spec (ws := (Cond.code yX2_replace cX2_replace 7 none :: es_T)) B.pre
  have hw : ∀ w ∈ es_T, w.before _ s = true := fun w h => hts w (List.mem_cons_of_mem _ h)
  have hown : s.vm.findClass RX2 = some m.cls := findClass_of_methodNamed B.named
  have hlocks := B.notSynchronized
  have hRm : 1 ≤ (headSpec (Cond.code yX2_replace cX2_replace 7 none :: es_T) { frames := 1, cells := 0, slots := 0, locals := 48 }).room.frames ∧ 48 ≤ (headSpec (Cond.code yX2_replace cX2_replace 7 none :: es_T) { frames := 1, cells := 0, slots := 0, locals := 48 }).room.locals := ⟨Nat.le_refl _, Nat.le_refl _⟩
  have hRc : 0 ≤ (headSpec (Cond.code yX2_replace cX2_replace 7 none :: es_T) { frames := 1, cells := 0, slots := 0, locals := 48 }).room.cells ∧ 0 ≤ (headSpec (Cond.code yX2_replace cX2_replace 7 none :: es_T) { frames := 1, cells := 0, slots := 0, locals := 48 }).room.slots := ⟨Nat.le_refl _, Nat.le_refl _⟩
  subst hsz
  have hD := hD0.self (sz := s.heap.size)
  generalize hAe : va_A [(t, .inr (2, [.ref r, .int (nI n)])), (r, .inl (cI, 400, .inl tx))] s.heap.size = A at hD ⊢
  have hA : ∀ q : Nat, s.heap.size ≤ q → A q := fun q h => by rw [← hAe]; exact Or.inr h
  have hS : va_S A s.heap s.heap [] := va_S.rf
  have hl := lv_entry ([.ref t, .int (nI pl), .int (nI ou), .long sy, .int (nI cn)]) (n := 7) (Nat.le_of_ble_eq_true rfl)
  rw [lg_entry_eq]
  generalize (lg_sl ([.ref t, .int (nI pl), .int (nI ou), .long sy, .int (nI cn)]) ++ List.replicate (7 - (lg_sl ([.ref t, .int (nI pl), .int (nI ou), .long sy, .int (nI cn)])).length) Slot.unset).toArray = ls at hl ⊢
  have hl : lv_has ls 7 [(0, .ref t), (1, .int (nI pl)), (2, .int (nI ou)), (3, .long sy), (5, .int (nI cn))] := hl
  refine lv_aload_n hx hb dX2_replace_0 rfl (lv_at hl 0 rfl) ?_
  refine lv_iload_n hx hb dX2_replace_1 rfl (lv_at hl 1 rfl) ?_
  refine lv_iload_n hx hb dX2_replace_2 rfl (lv_at hl 2 rfl) ?_
  refine lv_iload hx hb dX2_replace_3 (lv_at hl 4 rfl) ?_
  refine vp_callSi (va_Run.run (va_runV (As := [.int (nI pl), .int (nI ou), .int (nI cn)]) (rest := []) ⟨hx, hb, hml, hown, hw⟩ (c_X2_canReplace l D cI t r tx n (nI pl) (nI ou) (nI cn) ) (cwV 3 hw (es_v xw_124 xw_126 xw_127 xw_128 xw_125) rfl rfl rfl kv_X2_canReplace ⟨Nat.le_trans (Nat.le_of_ble_eq_true rfl) hRm.1, Nat.le_trans (Nat.le_of_ble_eq_true rfl) hRm.2⟩) (es_RV hK (hP.sub (ws' := [(t, .inr (2, [.ref r, .int (nI n)])), (r, .inl (cI, 400, .inl tx))]) [0, 1] rfl) rfl rfl) rfl rfl hl.1 rfl (lv_room (Nat.le_of_ble_eq_true rfl)) dX2_replace_5 ⟨(Nat.zero_le _), (Nat.zero_le _)⟩)) (fun r_1 er_1 => ?_)
  obtain rfl : r_1 = if es_can n (nI pl) (nI ou) (nI cn) then (1 : Int32) else 0 := er_1
  refine es_top (y := nI 1) (if_pos (es_can_of hn h1 h2 h3)) ?_
  refine lv_if_ne (tgt := 12) hx hb dX2_replace_8 (by decide) (fun c_8 => ?_) (fun c_8 => ?_)
  ·
    refine lv_aload_n hx hb dX2_replace_12 rfl (lv_at hl 0 rfl) ?_
    refine va_get (D := D) (ci := 2) (v := .ref r) (C := RX2) (T := TX2) (N := 2) hx hb hw iwX2 hown hK.1 hP 0 rfl rfl 0 (by decide) (hw _ xw_122) (fun _ h9 => h9) rfl dX2_replace_13 ?_
    refine lv_iload_n hx hb dX2_replace_16 rfl (lv_at hl 1 rfl) ?_
    refine lv_iload_n hx hb dX2_replace_17 rfl (lv_at hl 2 rfl) ?_
    refine lv_iadd hx hb dX2_replace_18 ?_
    refine es_top (y := nI (pl + ou)) (nI_add _ _) ?_
    refine lv_aload_n hx hb dX2_replace_19 rfl (lv_at hl 0 rfl) ?_
    refine va_get (D := D) (ci := 2) (v := .ref r) (C := RX2) (T := TX2) (N := 2) hx hb hw iwX2 hown hK.1 hP 0 rfl rfl 0 (by decide) (hw _ xw_122) (fun _ h9 => h9) rfl dX2_replace_20 ?_
    refine lv_iload_n hx hb dX2_replace_23 rfl (lv_at hl 1 rfl) ?_
    refine lv_iload hx hb dX2_replace_24 (lv_at hl 4 rfl) ?_
    refine lv_iadd hx hb dX2_replace_26 ?_
    refine es_top (y := nI (pl + cn)) (nI_add _ _) ?_
    refine lv_aload_n hx hb dX2_replace_27 rfl (lv_at hl 0 rfl) ?_
    refine va_get (D := D) (ci := 2) (v := .int (nI n)) (C := RX2) (T := TX2) (N := 2) hx hb hw iwX2 hown hK.1 hP 0 rfl rfl 1 (by decide) (hw _ xw_121) (fun _ h9 => h9) rfl dX2_replace_28 ?_
    refine lv_iload_n hx hb dX2_replace_31 rfl (lv_at hl 1 rfl) ?_
    refine lv_isub hx hb dX2_replace_32 ?_
    refine es_top (y := nI (n - pl)) (pk_sub (by omega)) ?_
    refine lv_iload_n hx hb dX2_replace_33 rfl (lv_at hl 2 rfl) ?_
    refine lv_isub hx hb dX2_replace_34 ?_
    refine es_top (y := nI ((n - pl) - ou)) (pk_sub (by omega)) ?_
    refine va_copyi hx hb (by rw [hml]; exact hl.1.symm) hown (hw _ xw_129) (hw _ xw_130) (hw _ xw_131) (hw _ xw_132) hK.1 hP hD hS 1 1 0 0 rfl rfl rfl rfl rfl (nI_pos (by omega)) (nI_pos (by omega)) (nI_pos (by omega)) (by rw [nI_clamp (by omega), nI_clamp (by omega)]; omega) (by rw [nI_clamp (by omega), nI_clamp (by omega)]; omega) (fun _ _ => rfl) (Nat.le_trans (Nat.le_of_ble_eq_true rfl) hRm.1) (Nat.le_trans (Nat.le_of_ble_eq_true rfl) hRm.2) dX2_replace_35 (fun H locs hP hD hS => ?_)
    rw [nI_clamp (n := (pl + ou)) (by omega), nI_clamp (n := (pl + cn)) (by omega), nI_clamp (n := ((n - pl) - ou)) (by omega)] at hP hD
    have hP : va_P D vwCl [(t, .inr (2, [.ref r, .int (nI n)])), (r, .inl (cI, 400, .inl (va_cpy tx tx (pl + ou) (pl + cn) ((n - pl) - ou))))] H := hP
    have hD : va_D A [(t, .inr (2, [.ref r, .int (nI n)])), (r, .inl (cI, 400, .inl (va_cpy tx tx (pl + ou) (pl + cn) ((n - pl) - ou))))] := hD
    refine lv_iconst (v := nI 0) hx hb dX2_replace_38 (by decide) ?_
    refine lv_istore (lv' := [(6, .int (nI 0)), (0, .ref t), (1, .int (nI pl)), (2, .int (nI ou)), (3, .long sy), (5, .int (nI cn))]) hx hb dX2_replace_39 hl (by decide) rfl (fun ls hl => ?_)
    refine lp_replace D cI t r tx n pl ou sy cn (va_cpy tx tx (pl + ou) (pl + cn) (n - pl - ou)) hx hb hml hown hw hK ⟨Nat.le_trans (Nat.le_of_ble_eq_true rfl) hRm.1, Nat.le_trans (Nat.le_of_ble_eq_true rfl) hRm.2⟩ hA (by first | assumption | omega) (by first | assumption | omega) (by first | assumption | omega) (by first | assumption | omega) (fun E hj H locs hP hD hS ls hl => ?_) ((cn - 0) + 1) 0 (va_cpy tx tx (pl + ou) (pl + cn) ((n - pl) - ou)) (by first | assumption | omega) es_rpi_0 (Nat.lt_succ_self _) H locs (hP.sub [0, 1] rfl) (hD.sub [0, 1] (by decide) rfl) hS ls (lv_sub hl [1, 2, 3, 4, 5, 0] rfl)
    refine lv_aload_n hx hb dX2_replace_71 rfl (lv_at hl 0 rfl) ?_
    refine lv_dup hx hb dX2_replace_72 rfl ?_
    refine va_get (D := D) (ci := 2) (v := .int (nI n)) (C := RX2) (T := TX2) (N := 2) hx hb hw iwX2 hown hK.1 hP 0 rfl rfl 1 (by decide) (hw _ xw_121) (fun _ h9 => h9) rfl dX2_replace_73 ?_
    refine lv_iload hx hb dX2_replace_76 (lv_at hl 2 rfl) ?_
    refine lv_iload_n hx hb dX2_replace_78 rfl (lv_at hl 1 rfl) ?_
    refine lv_isub hx hb dX2_replace_79 ?_
    refine lv_iadd hx hb dX2_replace_80 ?_
    refine es_top (y := nI (n - ou + cn)) (es_mv (by omega)) ?_
    refine va_put (D := D) (ci := 2) (v := .int (nI (n - ou + cn))) (ty := .int) (C := RX2) (T := TX2) (N := 2) hx hb hw iwX2 tyX2 tyX2_ok nmX2 hown hK.1 hP hD hS 0 rfl rfl 1 (by decide) (hw _ xw_121) (fun _ h9 => h9) rfl (by decide +kernel) rfl rfl (Nat.le_of_ble_eq_true rfl) dX2_replace_81 (fun H locs hP hD hS => ?_)
    have hP : va_P D vwCl [(t, .inr (2, [.ref r, .int (nI (n - ou + cn))])), (r, .inl (cI, 400, .inl E))] H := hP
    have hD : va_D A [(t, .inr (2, [.ref r, .int (nI (n - ou + cn))])), (r, .inl (cI, 400, .inl E))] := hD
    exact W.vret hx hb hr (fun zt ht hW => ⟨⟨E, rfl, (es_rep_of h1 h3 hj), ⟨by rw [ht]; exact hP.sub [0, 1] rfl, hD.sub [0, 1] (by decide) rfl⟩⟩, hS.F ht⟩) hS.2.2 dX2_replace_84
  ·
    exact absurd c_8 (by decide)
