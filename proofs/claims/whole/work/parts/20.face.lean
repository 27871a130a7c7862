def es_tw (F : Nat → Nat → Int32) (y i : Int32) : Int32 := if y = 0 then F 0 i.toNatClampNeg else if y = 1 then F 1 i.toNatClampNeg else if y = 2 then F 2 i.toNatClampNeg else if y = 3 then F 3 i.toNatClampNeg else -1
theorem es_tk_le {F : Nat → Nat → Int32} {c : Nat} : es_tk F c ≤ c := by
  unfold es_tk; split <;> omega
theorem es_tk_lt {F : Nat → Nat → Int32} {c : Nat} {x : Int32} (hc : c ≤ 400) (h : x < nI (es_tk F c)) : x < nI c := by
  have h1 := nI_le (es_tk_le (F := F) (c := c)) (by omega)
  rw [Int32.lt_iff_toInt_lt] at h ⊢
  rw [Int32.le_iff_toInt_le] at h1
  omega
def es_ct (F : Nat → Nat → Int32) (c n rd sc ed : Nat) (x : Int32) : Int32 := if x = 0 then nI (es_tk F c) else if x = 1 then nI n else if x = 2 then (if 0 < c ∧ F 1 (c - 1) = 0 then F 0 (c - 1) else -1) else if x = 3 then (if 0 < c ∧ F 1 (c - 1) = 0 then F 3 (c - 1) else 0) else if x = 4 then nI rd else if x = 5 then nI sc else if x = 6 then nI ed else -1
theorem es_ctx {F : Nat → Nat → Int32} {c a : Nat} (hc : c ≤ 400) (h : 0 < c ∧ F 1 (c - 1) = 0) : (if 0 ≤ nI (es_tk F c) ∧ nI (es_tk F c) < nI c then F a (nI (es_tk F c)).toNatClampNeg else -1) = F a (c - 1) := by
  have e : es_tk F c = c - 1 := if_pos h
  rw [e, if_pos ⟨nI_pos' (by omega), nI_lt (by omega) (by omega)⟩, nI_clamp (by omega)]
theorem es_ct2 {F : Nat → Nat → Int32} {c n rd sc ed : Nat} (hc : c ≤ 400) (h : 0 < c ∧ F 1 (c - 1) = 0) : (if 0 ≤ nI (es_tk F c) ∧ nI (es_tk F c) < nI c then F 0 (nI (es_tk F c)).toNatClampNeg else -1) = es_ct F c n rd sc ed 2 := by
  rw [es_ctx hc h]
  show _ = (if 0 < c ∧ F 1 (c - 1) = 0 then F 0 (c - 1) else -1)
  rw [if_pos h]
theorem es_ct2n {F : Nat → Nat → Int32} {c n rd sc ed : Nat} (h : ¬ (0 < c ∧ F 1 (c - 1) = 0)) : (-1) = es_ct F c n rd sc ed 2 := by
  show _ = (if 0 < c ∧ F 1 (c - 1) = 0 then F 0 (c - 1) else -1)
  rw [if_neg h]
theorem es_ct3 {F : Nat → Nat → Int32} {c n rd sc ed : Nat} (hc : c ≤ 400) (h : 0 < c ∧ F 1 (c - 1) = 0) : (if 0 ≤ nI (es_tk F c) ∧ nI (es_tk F c) < nI c then F 3 (nI (es_tk F c)).toNatClampNeg else -1) = es_ct F c n rd sc ed 3 := by
  rw [es_ctx hc h]
  show _ = (if 0 < c ∧ F 1 (c - 1) = 0 then F 3 (c - 1) else 0)
  rw [if_pos h]
theorem es_ct3n {F : Nat → Nat → Int32} {c n rd sc ed : Nat} (h : ¬ (0 < c ∧ F 1 (c - 1) = 0)) : nI 0 = es_ct F c n rd sc ed 3 := by
  show _ = (if 0 < c ∧ F 1 (c - 1) = 0 then F 3 (c - 1) else 0)
  rw [if_neg h]; rfl
theorem es_tkr {F : Nat → Nat → Int32} {c a : Nat} {x y : Int32} (hc : c ≤ 400) (h0 : 0 ≤ x) (h1 : x < nI (es_tk F c)) (hy : es_tw F y x = F a x.toNatClampNeg) : (if 0 ≤ x ∧ x < nI c then F a x.toNatClampNeg else -1) = (if 0 ≤ x ∧ x < nI (es_tk F c) then es_tw F y x else -1) := by
  rw [if_pos (⟨h0, es_tk_lt hc h1⟩ : 0 ≤ x ∧ x < nI c), if_pos (⟨h0, h1⟩ : 0 ≤ x ∧ x < nI (es_tk F c)), hy]
theorem es_tw0 (F : Nat → Nat → Int32) (x : Int32) : es_tw F 0 x = F 0 x.toNatClampNeg := if_pos rfl
theorem es_tw1 (F : Nat → Nat → Int32) (x : Int32) : es_tw F 1 x = F 1 x.toNatClampNeg := by
  unfold es_tw; rw [if_neg (by decide), if_pos rfl]
theorem es_tw2 (F : Nat → Nat → Int32) (x : Int32) : es_tw F 2 x = F 2 x.toNatClampNeg := by
  unfold es_tw; rw [if_neg (by decide), if_neg (by decide), if_pos rfl]
theorem es_tw3 (F : Nat → Nat → Int32) (x : Int32) : es_tw F 3 x = F 3 x.toNatClampNeg := by
  unfold es_tw; rw [if_neg (by decide), if_neg (by decide), if_neg (by decide), if_pos rfl]

set_option maxHeartbeats 1000000 in
set_option maxRecDepth 100000 in
/-- X3.token  -/
theorem c_X3_token (l : Launch) (D : va_G) (cI : ClassId) (h : Nat) (tb : Nat) (t : Nat) (f : Nat) (b0 : Nat) (b1 : Nat) (b2 : Nat) (b3 : Nat) (F : Nat → Nat → Int32) (cc : Nat) (g : Nat) (rd : Nat) (sc : Nat) (ed : Nat) (x : Int32) (y : Int32) (hc : cc ≤ 400) : Met l yX3_token (Cond.code yX3_token cX3_token 3 (some .int) :: es_T) { frames := 2, cells := 0, slots := 0, locals := 42 } (va_Pc [.ref h, .int x, .int y] (es_R D cI [(h, .inr (3, [.ref tb, .ref t, .ref f, .ref g, .int (nI rd), .int (nI sc), .int (nI ed)])), (f, .inr (0, [.ref b0, .ref b1, .ref b2, .ref b3, .int (nI cc)])), (b0, .inl (cI, 400, .inl (F 0))), (b1, .inl (cI, 400, .inl (F 1))), (b2, .inl (cI, 400, .inl (F 2))), (b3, .inl (cI, 400, .inl (F 3)))])) (vp_Si (fun r => r = if 0 ≤ x ∧ x < nI (es_tk F cc) then es_tw F y x else -1)) 0 0 (fun _ => False) := by
  refine Met.ofW (cc := cX3_token) (maxL := 3) (ret := (some .int)) (by decide) rfl ?_
  intro p e s m args below meth c s₁ B hml hv
  obtain ⟨rfl, hP, hK⟩ := hv
  have hx := B.exec
  have hb := B.bytes
  have hr := B.returns
  have hts := atoms_spec (ws := (Cond.code yX3_token cX3_token 3 (some .int) :: es_T)) B.pre
  have hw : ∀ w ∈ es_T, w.before _ s = true := fun w h => hts w (List.mem_cons_of_mem _ h)
  have hown : s.vm.findClass RX3 = some m.cls := findClass_of_methodNamed B.named
  have hlocks := B.notSynchronized
  have hRm : 2 ≤ (headSpec (Cond.code yX3_token cX3_token 3 (some .int) :: es_T) { frames := 2, cells := 0, slots := 0, locals := 42 }).room.frames ∧ 42 ≤ (headSpec (Cond.code yX3_token cX3_token 3 (some .int) :: es_T) { frames := 2, cells := 0, slots := 0, locals := 42 }).room.locals := ⟨Nat.le_refl _, Nat.le_refl _⟩
  have hRc : 0 ≤ (headSpec (Cond.code yX3_token cX3_token 3 (some .int) :: es_T) { frames := 2, cells := 0, slots := 0, locals := 42 }).room.cells ∧ 0 ≤ (headSpec (Cond.code yX3_token cX3_token 3 (some .int) :: es_T) { frames := 2, cells := 0, slots := 0, locals := 42 }).room.slots := ⟨Nat.le_refl _, Nat.le_refl _⟩
  have hl := lv_entry ([.ref h, .int x, .int y]) (n := 3) (Nat.le_of_ble_eq_true rfl)
  rw [lg_entry_eq]
  generalize (lg_sl ([.ref h, .int x, .int y]) ++ List.replicate (3 - (lg_sl ([.ref h, .int x, .int y])).length) Slot.unset).toArray = ls at hl ⊢
  have hl : lv_has ls 3 [(0, .ref h), (1, .int x), (2, .int y)] := hl
  refine lv_iload_n hx hb dX3_token_0 rfl (lv_at hl 1 rfl) ?_
  refine lv_if_lt (tgt := 15) hx hb dX3_token_1 (by decide) (fun c_1 => ?_) (fun c_1 => ?_)
  ·
    refine lv_iconst (v := (-1)) hx hb dX3_token_15 (by decide) ?_
    exact W.iret (v := (-1)) hx hb hr (fun zt ht hW => ⟨_, rfl, (by show _ = _; first | (rw [if_neg (fun h => absurd c_1 (Int32.not_lt.mpr h.1))]; done) | (rw [if_neg (fun h => c_12 h.2)]; done)), ht⟩) (fun _ h => by cases h) dX3_token_16
  ·
    refine lv_iload_n hx hb dX3_token_4 rfl (lv_at hl 1 rfl) ?_
    refine lv_aload_n hx hb dX3_token_5 rfl (lv_at hl 0 rfl) ?_
    refine va_get (D := D) (ci := 3) (v := .ref f) (C := RX3) (T := TX3) (N := 7) hx hb hw iwX3 hown hK.1 hP 0 rfl rfl 2 (by decide) (hw _ xw_146) (fun _ h9 => h9) rfl dX3_token_6 ?_
    refine vp_callSi (va_Run.run (va_runV (As := []) (rest := [.int x]) ⟨hx, hb, hml, hown, hw⟩ (c_X0_tokens l D cI f b0 b1 b2 b3 F cc (by first | assumption | omega)) (cwV 0 hw (es_v xw_147 xw_148 xw_149 xw_150 xw_83) rfl rfl rfl kv_X0_tokens ⟨Nat.le_trans (Nat.le_of_ble_eq_true rfl) hRm.1, Nat.le_trans (Nat.le_of_ble_eq_true rfl) hRm.2⟩) (es_RV hK (hP.sub (ws' := [(f, .inr (0, [.ref b0, .ref b1, .ref b2, .ref b3, .int (nI cc)])), (b0, .inl (cI, 400, .inl (F 0))), (b1, .inl (cI, 400, .inl (F 1))), (b2, .inl (cI, 400, .inl (F 2))), (b3, .inl (cI, 400, .inl (F 3)))]) [1, 2, 3, 4, 5] rfl) rfl rfl) rfl rfl hl.1 rfl (lv_room (Nat.le_of_ble_eq_true rfl)) dX3_token_9 ⟨(Nat.zero_le _), (Nat.zero_le _)⟩)) (fun r_1 er_1 => ?_)
    obtain rfl : r_1 = nI (es_tk F cc) := er_1
    refine lv_icmp_lt (tgt := 17) hx hb dX3_token_12 (by decide) (fun c_12 => ?_) (fun c_12 => ?_)
    ·
      refine lv_iload_n hx hb dX3_token_17 rfl (lv_at hl 2 rfl) ?_
      by_cases c_18 : y = 0
      ·
        subst c_18
        refine lv_tableIn (tgt := 48) hx hb dX3_token_18 (by decide) (by decide) (off := 30) (by decide) (by decide) ?_
        refine lv_aload_n hx hb dX3_token_48 rfl (lv_at hl 0 rfl) ?_
        refine va_get (D := D) (ci := 3) (v := .ref f) (C := RX3) (T := TX3) (N := 7) hx hb hw iwX3 hown hK.1 hP 0 rfl rfl 2 (by decide) (hw _ xw_146) (fun _ h9 => h9) rfl dX3_token_49 ?_
        refine lv_iload_n hx hb dX3_token_52 rfl (lv_at hl 1 rfl) ?_
        refine vp_callSi (va_Run.run (va_runV (As := [.int x]) (rest := []) ⟨hx, hb, hml, hown, hw⟩ (c_X0_begin l D cI f b0 b1 b2 b3 F cc x (by first | assumption | omega)) (cwV 1 hw (es_v xw_168 xw_169 xw_170 xw_171 xw_83) rfl rfl rfl kv_X0_begin ⟨Nat.le_trans (Nat.le_of_ble_eq_true rfl) hRm.1, Nat.le_trans (Nat.le_of_ble_eq_true rfl) hRm.2⟩) (es_RV hK (hP.sub (ws' := [(f, .inr (0, [.ref b0, .ref b1, .ref b2, .ref b3, .int (nI cc)])), (b0, .inl (cI, 400, .inl (F 0))), (b1, .inl (cI, 400, .inl (F 1))), (b2, .inl (cI, 400, .inl (F 2))), (b3, .inl (cI, 400, .inl (F 3)))]) [1, 2, 3, 4, 5] rfl) rfl rfl) rfl rfl hl.1 rfl (lv_room (Nat.le_of_ble_eq_true rfl)) dX3_token_53 ⟨(Nat.zero_le _), (Nat.zero_le _)⟩)) (fun r_2 er_2 => ?_)
        obtain rfl : r_2 = if 0 ≤ x ∧ x < nI cc then F 0 x.toNatClampNeg else -1 := er_2
        exact W.iret (v := if 0 ≤ x ∧ x < nI cc then F 0 x.toNatClampNeg else -1) hx hb hr (fun zt ht hW => ⟨_, rfl, (es_tkr hc (Int32.not_lt.mp c_1) c_12 (es_tw0 F x)), ht⟩) (fun _ h => by cases h) dX3_token_56
      by_cases c_18 : y = 1
      ·
        subst c_18
        refine lv_tableIn (tgt := 57) hx hb dX3_token_18 (by decide) (by decide) (off := 39) (by decide) (by decide) ?_
        refine lv_aload_n hx hb dX3_token_57 rfl (lv_at hl 0 rfl) ?_
        refine va_get (D := D) (ci := 3) (v := .ref f) (C := RX3) (T := TX3) (N := 7) hx hb hw iwX3 hown hK.1 hP 0 rfl rfl 2 (by decide) (hw _ xw_146) (fun _ h9 => h9) rfl dX3_token_58 ?_
        refine lv_iload_n hx hb dX3_token_61 rfl (lv_at hl 1 rfl) ?_
        refine vp_callSi (va_Run.run (va_runV (As := [.int x]) (rest := []) ⟨hx, hb, hml, hown, hw⟩ (c_X0_length l D cI f b0 b1 b2 b3 F cc x (by first | assumption | omega)) (cwV 1 hw (es_v xw_248 xw_249 xw_250 xw_251 xw_83) rfl rfl rfl kv_X0_length ⟨Nat.le_trans (Nat.le_of_ble_eq_true rfl) hRm.1, Nat.le_trans (Nat.le_of_ble_eq_true rfl) hRm.2⟩) (es_RV hK (hP.sub (ws' := [(f, .inr (0, [.ref b0, .ref b1, .ref b2, .ref b3, .int (nI cc)])), (b0, .inl (cI, 400, .inl (F 0))), (b1, .inl (cI, 400, .inl (F 1))), (b2, .inl (cI, 400, .inl (F 2))), (b3, .inl (cI, 400, .inl (F 3)))]) [1, 2, 3, 4, 5] rfl) rfl rfl) rfl rfl hl.1 rfl (lv_room (Nat.le_of_ble_eq_true rfl)) dX3_token_62 ⟨(Nat.zero_le _), (Nat.zero_le _)⟩)) (fun r_3 er_3 => ?_)
        obtain rfl : r_3 = if 0 ≤ x ∧ x < nI cc then F 1 x.toNatClampNeg else -1 := er_3
        exact W.iret (v := if 0 ≤ x ∧ x < nI cc then F 1 x.toNatClampNeg else -1) hx hb hr (fun zt ht hW => ⟨_, rfl, (es_tkr hc (Int32.not_lt.mp c_1) c_12 (es_tw1 F x)), ht⟩) (fun _ h => by cases h) dX3_token_65
      by_cases c_18 : y = 2
      ·
        subst c_18
        refine lv_tableIn (tgt := 66) hx hb dX3_token_18 (by decide) (by decide) (off := 48) (by decide) (by decide) ?_
        refine lv_aload_n hx hb dX3_token_66 rfl (lv_at hl 0 rfl) ?_
        refine va_get (D := D) (ci := 3) (v := .ref f) (C := RX3) (T := TX3) (N := 7) hx hb hw iwX3 hown hK.1 hP 0 rfl rfl 2 (by decide) (hw _ xw_146) (fun _ h9 => h9) rfl dX3_token_67 ?_
        refine lv_iload_n hx hb dX3_token_70 rfl (lv_at hl 1 rfl) ?_
        refine vp_callSi (va_Run.run (va_runV (As := [.int x]) (rest := []) ⟨hx, hb, hml, hown, hw⟩ (c_X0_kindFound l D cI f b0 b1 b2 b3 F cc x (by first | assumption | omega)) (cwV 1 hw (es_v xw_252 xw_253 xw_254 xw_255 xw_83) rfl rfl rfl kv_X0_kindFound ⟨Nat.le_trans (Nat.le_of_ble_eq_true rfl) hRm.1, Nat.le_trans (Nat.le_of_ble_eq_true rfl) hRm.2⟩) (es_RV hK (hP.sub (ws' := [(f, .inr (0, [.ref b0, .ref b1, .ref b2, .ref b3, .int (nI cc)])), (b0, .inl (cI, 400, .inl (F 0))), (b1, .inl (cI, 400, .inl (F 1))), (b2, .inl (cI, 400, .inl (F 2))), (b3, .inl (cI, 400, .inl (F 3)))]) [1, 2, 3, 4, 5] rfl) rfl rfl) rfl rfl hl.1 rfl (lv_room (Nat.le_of_ble_eq_true rfl)) dX3_token_71 ⟨(Nat.zero_le _), (Nat.zero_le _)⟩)) (fun r_4 er_4 => ?_)
        obtain rfl : r_4 = if 0 ≤ x ∧ x < nI cc then F 2 x.toNatClampNeg else -1 := er_4
        exact W.iret (v := if 0 ≤ x ∧ x < nI cc then F 2 x.toNatClampNeg else -1) hx hb hr (fun zt ht hW => ⟨_, rfl, (es_tkr hc (Int32.not_lt.mp c_1) c_12 (es_tw2 F x)), ht⟩) (fun _ h => by cases h) dX3_token_74
      by_cases c_18 : y = 3
      ·
        subst c_18
        refine lv_tableIn (tgt := 75) hx hb dX3_token_18 (by decide) (by decide) (off := 57) (by decide) (by decide) ?_
        refine lv_aload_n hx hb dX3_token_75 rfl (lv_at hl 0 rfl) ?_
        refine va_get (D := D) (ci := 3) (v := .ref f) (C := RX3) (T := TX3) (N := 7) hx hb hw iwX3 hown hK.1 hP 0 rfl rfl 2 (by decide) (hw _ xw_146) (fun _ h9 => h9) rfl dX3_token_76 ?_
        refine lv_iload_n hx hb dX3_token_79 rfl (lv_at hl 1 rfl) ?_
        refine vp_callSi (va_Run.run (va_runV (As := [.int x]) (rest := []) ⟨hx, hb, hml, hown, hw⟩ (c_X0_looked l D cI f b0 b1 b2 b3 F cc x (by first | assumption | omega)) (cwV 1 hw (es_v xw_172 xw_173 xw_174 xw_175 xw_83) rfl rfl rfl kv_X0_looked ⟨Nat.le_trans (Nat.le_of_ble_eq_true rfl) hRm.1, Nat.le_trans (Nat.le_of_ble_eq_true rfl) hRm.2⟩) (es_RV hK (hP.sub (ws' := [(f, .inr (0, [.ref b0, .ref b1, .ref b2, .ref b3, .int (nI cc)])), (b0, .inl (cI, 400, .inl (F 0))), (b1, .inl (cI, 400, .inl (F 1))), (b2, .inl (cI, 400, .inl (F 2))), (b3, .inl (cI, 400, .inl (F 3)))]) [1, 2, 3, 4, 5] rfl) rfl rfl) rfl rfl hl.1 rfl (lv_room (Nat.le_of_ble_eq_true rfl)) dX3_token_80 ⟨(Nat.zero_le _), (Nat.zero_le _)⟩)) (fun r_5 er_5 => ?_)
        obtain rfl : r_5 = if 0 ≤ x ∧ x < nI cc then F 3 x.toNatClampNeg else -1 := er_5
        exact W.iret (v := if 0 ≤ x ∧ x < nI cc then F 3 x.toNatClampNeg else -1) hx hb hr (fun zt ht hW => ⟨_, rfl, (es_tkr hc (Int32.not_lt.mp c_1) c_12 (es_tw3 F x)), ht⟩) (fun _ h => by cases h) dX3_token_83
      refine lv_tableOut (tgt := 84) hx hb dX3_token_18 (es_out4 (by assumption) (by assumption) (by assumption) (by assumption)) (by decide) ?_
      refine lv_iconst (v := (-1)) hx hb dX3_token_84 (by decide) ?_
      exact W.iret (v := (-1)) hx hb hr (fun zt ht hW => ⟨_, rfl, (by show _ = _; rw [if_pos ⟨Int32.not_lt.mp c_1, c_12⟩]; unfold es_tw; rw [if_neg (by assumption), if_neg (by assumption), if_neg (by assumption), if_neg (by assumption)]), ht⟩) (fun _ h => by cases h) dX3_token_85
    ·
      refine lv_iconst (v := (-1)) hx hb dX3_token_15 (by decide) ?_
      exact W.iret (v := (-1)) hx hb hr (fun zt ht hW => ⟨_, rfl, (by show _ = _; first | (rw [if_neg (fun h => absurd c_1 (Int32.not_lt.mpr h.1))]; done) | (rw [if_neg (fun h => c_12 h.2)]; done)), ht⟩) (fun _ h => by cases h) dX3_token_16
set_option maxHeartbeats 1000000 in
set_option maxRecDepth 100000 in
/-- X3.tokenAt  -/
theorem c_X3_tokenAt (l : Launch) (D : va_G) (cI : ClassId) (h : Nat) (tb : Nat) (t : Nat) (f : Nat) (b0 : Nat) (b1 : Nat) (b2 : Nat) (b3 : Nat) (F : Nat → Nat → Int32) (cc : Nat) (g : Nat) (rd : Nat) (sc : Nat) (ed : Nat) (x : Int32) (hc : cc ≤ 400) : Met l yX3_tokenAt (Cond.code yX3_tokenAt cX3_tokenAt 2 (some .int) :: es_T) { frames := 1, cells := 0, slots := 0, locals := 22 } (va_Pc [.ref h, .int x] (es_R D cI [(h, .inr (3, [.ref tb, .ref t, .ref f, .ref g, .int (nI rd), .int (nI sc), .int (nI ed)])), (f, .inr (0, [.ref b0, .ref b1, .ref b2, .ref b3, .int (nI cc)])), (b0, .inl (cI, 400, .inl (F 0))), (b1, .inl (cI, 400, .inl (F 1))), (b2, .inl (cI, 400, .inl (F 2))), (b3, .inl (cI, 400, .inl (F 3)))])) (vp_Si (fun q => ∃ i : Nat, i ≤ cc ∧ (∀ j, j < i → ¬ (F 0 j ≤ x ∧ x < F 0 j + F 1 j)) ∧ ((i = cc ∧ q = -1) ∨ (i < cc ∧ (F 0 i ≤ x ∧ x < F 0 i + F 1 i) ∧ q = nI i)))) 0 0 (fun _ => False) := by
  refine Met.ofW (cc := cX3_tokenAt) (maxL := 2) (ret := (some .int)) (by decide) rfl ?_
  intro p e s m args below meth c s₁ B hml hv
  obtain ⟨rfl, hP, hK⟩ := hv
  have hx := B.exec
  have hb := B.bytes
  have hr := B.returns
  have hts := atoms_spec (ws := (Cond.code yX3_tokenAt cX3_tokenAt 2 (some .int) :: es_T)) B.pre
  have hw : ∀ w ∈ es_T, w.before _ s = true := fun w h => hts w (List.mem_cons_of_mem _ h)
  have hown : s.vm.findClass RX3 = some m.cls := findClass_of_methodNamed B.named
  have hlocks := B.notSynchronized
  have hRm : 1 ≤ (headSpec (Cond.code yX3_tokenAt cX3_tokenAt 2 (some .int) :: es_T) { frames := 1, cells := 0, slots := 0, locals := 22 }).room.frames ∧ 22 ≤ (headSpec (Cond.code yX3_tokenAt cX3_tokenAt 2 (some .int) :: es_T) { frames := 1, cells := 0, slots := 0, locals := 22 }).room.locals := ⟨Nat.le_refl _, Nat.le_refl _⟩
  have hRc : 0 ≤ (headSpec (Cond.code yX3_tokenAt cX3_tokenAt 2 (some .int) :: es_T) { frames := 1, cells := 0, slots := 0, locals := 22 }).room.cells ∧ 0 ≤ (headSpec (Cond.code yX3_tokenAt cX3_tokenAt 2 (some .int) :: es_T) { frames := 1, cells := 0, slots := 0, locals := 22 }).room.slots := ⟨Nat.le_refl _, Nat.le_refl _⟩
  have hl := lv_entry ([.ref h, .int x]) (n := 2) (Nat.le_of_ble_eq_true rfl)
  rw [lg_entry_eq]
  generalize (lg_sl ([.ref h, .int x]) ++ List.replicate (2 - (lg_sl ([.ref h, .int x])).length) Slot.unset).toArray = ls at hl ⊢
  have hl : lv_has ls 2 [(0, .ref h), (1, .int x)] := hl
  refine lv_aload_n hx hb dX3_tokenAt_0 rfl (lv_at hl 0 rfl) ?_
  refine va_get (D := D) (ci := 3) (v := .ref f) (C := RX3) (T := TX3) (N := 7) hx hb hw iwX3 hown hK.1 hP 0 rfl rfl 2 (by decide) (hw _ xw_146) (fun _ h9 => h9) rfl dX3_tokenAt_1 ?_
  refine lv_iload_n hx hb dX3_tokenAt_4 rfl (lv_at hl 1 rfl) ?_
  refine vp_callSi (va_Run.run (va_runV (As := [.int x]) (rest := []) ⟨hx, hb, hml, hown, hw⟩ (c_X0_tokenAround l D cI f b0 b1 b2 b3 F cc x (by first | assumption | omega)) (cwV 1 hw (es_v xw_256 xw_257 xw_258 xw_259 xw_83) rfl rfl rfl kv_X0_tokenAround ⟨Nat.le_trans (Nat.le_of_ble_eq_true rfl) hRm.1, Nat.le_trans (Nat.le_of_ble_eq_true rfl) hRm.2⟩) (es_RV hK (hP.sub (ws' := [(f, .inr (0, [.ref b0, .ref b1, .ref b2, .ref b3, .int (nI cc)])), (b0, .inl (cI, 400, .inl (F 0))), (b1, .inl (cI, 400, .inl (F 1))), (b2, .inl (cI, 400, .inl (F 2))), (b3, .inl (cI, 400, .inl (F 3)))]) [1, 2, 3, 4, 5] rfl) rfl rfl) rfl rfl hl.1 rfl (lv_room (Nat.le_of_ble_eq_true rfl)) dX3_tokenAt_5 ⟨(Nat.zero_le _), (Nat.zero_le _)⟩)) (fun ri eri => ?_)
  exact W.iret (v := ri) hx hb hr (fun zt ht hW => ⟨_, rfl, eri, ht⟩) (fun _ h => by cases h) dX3_tokenAt_8
set_option maxHeartbeats 1000000 in
set_option maxRecDepth 100000 in
/-- X3.symbol  -/
theorem c_X3_symbol (l : Launch) (D : va_G) (cI : ClassId) (h : Nat) (tb : Nat) (f : Nat) (g : Nat) (rd : Nat) (sc : Nat) (ed : Nat) (t : Nat) (r : Nat) (tx : Nat → Int32) (n : Nat) (x : Int32) (hn : n ≤ 400) : Met l yX3_symbol (Cond.code yX3_symbol cX3_symbol 2 (some .int) :: es_T) { frames := 1, cells := 0, slots := 0, locals := 21 } (va_Pc [.ref h, .int x] (es_R D cI [(h, .inr (3, [.ref tb, .ref t, .ref f, .ref g, .int (nI rd), .int (nI sc), .int (nI ed)])), (t, .inr (2, [.ref r, .int (nI n)])), (r, .inl (cI, 400, .inl tx))])) (vp_Si (fun r => r = if 0 ≤ x ∧ x < nI n then tx x.toNatClampNeg else -1)) 0 0 (fun _ => False) := by
  refine Met.ofW (cc := cX3_symbol) (maxL := 2) (ret := (some .int)) (by decide) rfl ?_
  intro p e s m args below meth c s₁ B hml hv
  obtain ⟨rfl, hP, hK⟩ := hv
  have hx := B.exec
  have hb := B.bytes
  have hr := B.returns
  have hts := atoms_spec (ws := (Cond.code yX3_symbol cX3_symbol 2 (some .int) :: es_T)) B.pre
  have hw : ∀ w ∈ es_T, w.before _ s = true := fun w h => hts w (List.mem_cons_of_mem _ h)
  have hown : s.vm.findClass RX3 = some m.cls := findClass_of_methodNamed B.named
  have hlocks := B.notSynchronized
  have hRm : 1 ≤ (headSpec (Cond.code yX3_symbol cX3_symbol 2 (some .int) :: es_T) { frames := 1, cells := 0, slots := 0, locals := 21 }).room.frames ∧ 21 ≤ (headSpec (Cond.code yX3_symbol cX3_symbol 2 (some .int) :: es_T) { frames := 1, cells := 0, slots := 0, locals := 21 }).room.locals := ⟨Nat.le_refl _, Nat.le_refl _⟩
  have hRc : 0 ≤ (headSpec (Cond.code yX3_symbol cX3_symbol 2 (some .int) :: es_T) { frames := 1, cells := 0, slots := 0, locals := 21 }).room.cells ∧ 0 ≤ (headSpec (Cond.code yX3_symbol cX3_symbol 2 (some .int) :: es_T) { frames := 1, cells := 0, slots := 0, locals := 21 }).room.slots := ⟨Nat.le_refl _, Nat.le_refl _⟩
  have hl := lv_entry ([.ref h, .int x]) (n := 2) (Nat.le_of_ble_eq_true rfl)
  rw [lg_entry_eq]
  generalize (lg_sl ([.ref h, .int x]) ++ List.replicate (2 - (lg_sl ([.ref h, .int x])).length) Slot.unset).toArray = ls at hl ⊢
  have hl : lv_has ls 2 [(0, .ref h), (1, .int x)] := hl
  refine lv_aload_n hx hb dX3_symbol_0 rfl (lv_at hl 0 rfl) ?_
  refine va_get (D := D) (ci := 3) (v := .ref t) (C := RX3) (T := TX3) (N := 7) hx hb hw iwX3 hown hK.1 hP 0 rfl rfl 1 (by decide) (hw _ xw_136) (fun _ h9 => h9) rfl dX3_symbol_1 ?_
  refine lv_iload_n hx hb dX3_symbol_4 rfl (lv_at hl 1 rfl) ?_
  refine vp_callSi (va_Run.run (va_runV (As := [.int x]) (rest := []) ⟨hx, hb, hml, hown, hw⟩ (c_X2_at l D cI t r tx n x (by first | assumption | omega)) (cwV 1 hw (es_v xw_235 xw_236 xw_237 xw_238 xw_125) rfl rfl rfl kv_X2_at ⟨Nat.le_trans (Nat.le_of_ble_eq_true rfl) hRm.1, Nat.le_trans (Nat.le_of_ble_eq_true rfl) hRm.2⟩) (es_RV hK (hP.sub (ws' := [(t, .inr (2, [.ref r, .int (nI n)])), (r, .inl (cI, 400, .inl tx))]) [1, 2] rfl) rfl rfl) rfl rfl hl.1 rfl (lv_room (Nat.le_of_ble_eq_true rfl)) dX3_symbol_5 ⟨(Nat.zero_le _), (Nat.zero_le _)⟩)) (fun r_1 er_1 => ?_)
  obtain rfl : r_1 = if 0 ≤ x ∧ x < nI n then tx x.toNatClampNeg else -1 := er_1
  exact W.iret (v := if 0 ≤ x ∧ x < nI n then tx x.toNatClampNeg else -1) hx hb hr (fun zt ht hW => ⟨_, rfl, rfl, ht⟩) (fun _ h => by cases h) dX3_symbol_8
set_option maxHeartbeats 1000000 in
set_option maxRecDepth 100000 in
/-- X3.count  -/
theorem c_X3_count (l : Launch) (D : va_G) (cI : ClassId) (h : Nat) (tb : Nat) (t : Nat) (f : Nat) (b0 : Nat) (b1 : Nat) (b2 : Nat) (b3 : Nat) (F : Nat → Nat → Int32) (cc : Nat) (g : Nat) (rd : Nat) (sc : Nat) (ed : Nat) (r : Nat) (tx : Nat → Int32) (n : Nat) (x : Int32) (hc : cc ≤ 400) : Met l yX3_count (Cond.code yX3_count cX3_count 2 (some .int) :: es_T) { frames := 2, cells := 0, slots := 0, locals := 42 } (va_Pc [.ref h, .int x] (es_R D cI [(h, .inr (3, [.ref tb, .ref t, .ref f, .ref g, .int (nI rd), .int (nI sc), .int (nI ed)])), (t, .inr (2, [.ref r, .int (nI n)])), (r, .inl (cI, 400, .inl tx)), (f, .inr (0, [.ref b0, .ref b1, .ref b2, .ref b3, .int (nI cc)])), (b0, .inl (cI, 400, .inl (F 0))), (b1, .inl (cI, 400, .inl (F 1))), (b2, .inl (cI, 400, .inl (F 2))), (b3, .inl (cI, 400, .inl (F 3)))])) (vp_Si (fun r => r = es_ct F cc n rd sc ed x)) 0 0 (fun _ => False) := by
  refine Met.ofW (cc := cX3_count) (maxL := 2) (ret := (some .int)) (by decide) rfl ?_
  intro p e s m args below meth c s₁ B hml hv
  obtain ⟨rfl, hP, hK⟩ := hv
  have hx := B.exec
  have hb := B.bytes
  have hr := B.returns
  have hts := atoms_spec (ws := (Cond.code yX3_count cX3_count 2 (some .int) :: es_T)) B.pre
  have hw : ∀ w ∈ es_T, w.before _ s = true := fun w h => hts w (List.mem_cons_of_mem _ h)
  have hown : s.vm.findClass RX3 = some m.cls := findClass_of_methodNamed B.named
  have hlocks := B.notSynchronized
  have hRm : 2 ≤ (headSpec (Cond.code yX3_count cX3_count 2 (some .int) :: es_T) { frames := 2, cells := 0, slots := 0, locals := 42 }).room.frames ∧ 42 ≤ (headSpec (Cond.code yX3_count cX3_count 2 (some .int) :: es_T) { frames := 2, cells := 0, slots := 0, locals := 42 }).room.locals := ⟨Nat.le_refl _, Nat.le_refl _⟩
  have hRc : 0 ≤ (headSpec (Cond.code yX3_count cX3_count 2 (some .int) :: es_T) { frames := 2, cells := 0, slots := 0, locals := 42 }).room.cells ∧ 0 ≤ (headSpec (Cond.code yX3_count cX3_count 2 (some .int) :: es_T) { frames := 2, cells := 0, slots := 0, locals := 42 }).room.slots := ⟨Nat.le_refl _, Nat.le_refl _⟩
  have hl := lv_entry ([.ref h, .int x]) (n := 2) (Nat.le_of_ble_eq_true rfl)
  rw [lg_entry_eq]
  generalize (lg_sl ([.ref h, .int x]) ++ List.replicate (2 - (lg_sl ([.ref h, .int x])).length) Slot.unset).toArray = ls at hl ⊢
  have hl : lv_has ls 2 [(0, .ref h), (1, .int x)] := hl
  refine lv_iload_n hx hb dX3_count_0 rfl (lv_at hl 1 rfl) ?_
  by_cases c_1 : x = 0
  ·
    subst c_1
    refine lv_tableIn (tgt := 44) hx hb dX3_count_1 (by decide) (by decide) (off := 43) (by decide) (by decide) ?_
    refine lv_aload_n hx hb dX3_count_44 rfl (lv_at hl 0 rfl) ?_
    refine va_get (D := D) (ci := 3) (v := .ref f) (C := RX3) (T := TX3) (N := 7) hx hb hw iwX3 hown hK.1 hP 0 rfl rfl 2 (by decide) (hw _ xw_146) (fun _ h9 => h9) rfl dX3_count_45 ?_
    refine vp_callSi (va_Run.run (va_runV (As := []) (rest := []) ⟨hx, hb, hml, hown, hw⟩ (c_X0_tokens l D cI f b0 b1 b2 b3 F cc (by first | assumption | omega)) (cwV 0 hw (es_v xw_147 xw_148 xw_149 xw_150 xw_83) rfl rfl rfl kv_X0_tokens ⟨Nat.le_trans (Nat.le_of_ble_eq_true rfl) hRm.1, Nat.le_trans (Nat.le_of_ble_eq_true rfl) hRm.2⟩) (es_RV hK (hP.sub (ws' := [(f, .inr (0, [.ref b0, .ref b1, .ref b2, .ref b3, .int (nI cc)])), (b0, .inl (cI, 400, .inl (F 0))), (b1, .inl (cI, 400, .inl (F 1))), (b2, .inl (cI, 400, .inl (F 2))), (b3, .inl (cI, 400, .inl (F 3)))]) [3, 4, 5, 6, 7] rfl) rfl rfl) rfl rfl hl.1 rfl (lv_room (Nat.le_of_ble_eq_true rfl)) dX3_count_48 ⟨(Nat.zero_le _), (Nat.zero_le _)⟩)) (fun r_1 er_1 => ?_)
    obtain rfl : r_1 = nI (es_tk F cc) := er_1
    exact W.iret (v := nI (es_tk F cc)) hx hb hr (fun zt ht hW => ⟨_, rfl, rfl, ht⟩) (fun _ h => by cases h) dX3_count_51
  by_cases c_1 : x = 1
  ·
    subst c_1
    refine lv_tableIn (tgt := 52) hx hb dX3_count_1 (by decide) (by decide) (off := 51) (by decide) (by decide) ?_
    refine lv_aload_n hx hb dX3_count_52 rfl (lv_at hl 0 rfl) ?_
    refine va_get (D := D) (ci := 3) (v := .ref t) (C := RX3) (T := TX3) (N := 7) hx hb hw iwX3 hown hK.1 hP 0 rfl rfl 1 (by decide) (hw _ xw_136) (fun _ h9 => h9) rfl dX3_count_53 ?_
    refine vp_callSi (va_Run.run (va_runV (As := []) (rest := []) ⟨hx, hb, hml, hown, hw⟩ (c_X2_size l D cI t r tx n ) (cwV 0 hw (es_v xw_163 xw_164 xw_165 xw_166 xw_125) rfl rfl rfl kv_X2_size ⟨Nat.le_trans (Nat.le_of_ble_eq_true rfl) hRm.1, Nat.le_trans (Nat.le_of_ble_eq_true rfl) hRm.2⟩) (es_RV hK (hP.sub (ws' := [(t, .inr (2, [.ref r, .int (nI n)])), (r, .inl (cI, 400, .inl tx))]) [1, 2] rfl) rfl rfl) rfl rfl hl.1 rfl (lv_room (Nat.le_of_ble_eq_true rfl)) dX3_count_56 ⟨(Nat.zero_le _), (Nat.zero_le _)⟩)) (fun r_2 er_2 => ?_)
    obtain rfl : r_2 = nI n := er_2
    exact W.iret (v := nI n) hx hb hr (fun zt ht hW => ⟨_, rfl, rfl, ht⟩) (fun _ h => by cases h) dX3_count_59
  by_cases c_1 : x = 2
  ·
    subst c_1
    refine lv_tableIn (tgt := 60) hx hb dX3_count_1 (by decide) (by decide) (off := 59) (by decide) (by decide) ?_
    refine lv_aload_n hx hb dX3_count_60 rfl (lv_at hl 0 rfl) ?_
    refine va_get (D := D) (ci := 3) (v := .ref f) (C := RX3) (T := TX3) (N := 7) hx hb hw iwX3 hown hK.1 hP 0 rfl rfl 2 (by decide) (hw _ xw_146) (fun _ h9 => h9) rfl dX3_count_61 ?_
    refine vp_callSi (va_Run.run (va_runV (As := []) (rest := []) ⟨hx, hb, hml, hown, hw⟩ (c_X0_failed l D cI f b0 b1 b2 b3 F cc (by first | assumption | omega)) (cwV 0 hw (es_v xw_99 xw_167 xw_101 xw_102 xw_83) rfl rfl rfl kv_X0_failed ⟨Nat.le_trans (Nat.le_of_ble_eq_true rfl) hRm.1, Nat.le_trans (Nat.le_of_ble_eq_true rfl) hRm.2⟩) (es_RV hK (hP.sub (ws' := [(f, .inr (0, [.ref b0, .ref b1, .ref b2, .ref b3, .int (nI cc)])), (b0, .inl (cI, 400, .inl (F 0))), (b1, .inl (cI, 400, .inl (F 1))), (b2, .inl (cI, 400, .inl (F 2))), (b3, .inl (cI, 400, .inl (F 3)))]) [3, 4, 5, 6, 7] rfl) rfl rfl) rfl rfl hl.1 rfl (lv_room (Nat.le_of_ble_eq_true rfl)) dX3_count_64 ⟨(Nat.zero_le _), (Nat.zero_le _)⟩)) (fun r_3 er_3 => ?_)
    obtain rfl : r_3 = if 0 < cc ∧ F 1 (cc - 1) = 0 then (1 : Int32) else 0 := er_3
    refine lv_if_eq (tgt := 87) hx hb dX3_count_67 (by decide) (fun c_67 => ?_) (fun c_67 => ?_)
    ·
      have c_67 := es_if0 c_67
      refine lv_iconst (v := (-1)) hx hb dX3_count_87 (by decide) ?_
      exact W.iret (v := (-1)) hx hb hr (fun zt ht hW => ⟨_, rfl, (by show _ = _; first | exact es_ct2 hc c_67 | exact es_ct2n c_67), ht⟩) (fun _ h => by cases h) dX3_count_88
    ·
      have c_67 := es_if1 c_67
      refine lv_aload_n hx hb dX3_count_70 rfl (lv_at hl 0 rfl) ?_
      refine va_get (D := D) (ci := 3) (v := .ref f) (C := RX3) (T := TX3) (N := 7) hx hb hw iwX3 hown hK.1 hP 0 rfl rfl 2 (by decide) (hw _ xw_146) (fun _ h9 => h9) rfl dX3_count_71 ?_
      refine lv_aload_n hx hb dX3_count_74 rfl (lv_at hl 0 rfl) ?_
      refine va_get (D := D) (ci := 3) (v := .ref f) (C := RX3) (T := TX3) (N := 7) hx hb hw iwX3 hown hK.1 hP 0 rfl rfl 2 (by decide) (hw _ xw_146) (fun _ h9 => h9) rfl dX3_count_75 ?_
      refine vp_callSi (va_Run.run (va_runV (As := []) (rest := [.ref f]) ⟨hx, hb, hml, hown, hw⟩ (c_X0_tokens l D cI f b0 b1 b2 b3 F cc (by first | assumption | omega)) (cwV 0 hw (es_v xw_147 xw_148 xw_149 xw_150 xw_83) rfl rfl rfl kv_X0_tokens ⟨Nat.le_trans (Nat.le_of_ble_eq_true rfl) hRm.1, Nat.le_trans (Nat.le_of_ble_eq_true rfl) hRm.2⟩) (es_RV hK (hP.sub (ws' := [(f, .inr (0, [.ref b0, .ref b1, .ref b2, .ref b3, .int (nI cc)])), (b0, .inl (cI, 400, .inl (F 0))), (b1, .inl (cI, 400, .inl (F 1))), (b2, .inl (cI, 400, .inl (F 2))), (b3, .inl (cI, 400, .inl (F 3)))]) [3, 4, 5, 6, 7] rfl) rfl rfl) rfl rfl hl.1 rfl (lv_room (Nat.le_of_ble_eq_true rfl)) dX3_count_78 ⟨(Nat.zero_le _), (Nat.zero_le _)⟩)) (fun r_4 er_4 => ?_)
      obtain rfl : r_4 = nI (es_tk F cc) := er_4
      refine vp_callSi (va_Run.run (va_runV (As := [.int (nI (es_tk F cc))]) (rest := []) ⟨hx, hb, hml, hown, hw⟩ (c_X0_begin l D cI f b0 b1 b2 b3 F cc (nI (es_tk F cc)) (by first | assumption | omega)) (cwV 1 hw (es_v xw_168 xw_169 xw_170 xw_171 xw_83) rfl rfl rfl kv_X0_begin ⟨Nat.le_trans (Nat.le_of_ble_eq_true rfl) hRm.1, Nat.le_trans (Nat.le_of_ble_eq_true rfl) hRm.2⟩) (es_RV hK (hP.sub (ws' := [(f, .inr (0, [.ref b0, .ref b1, .ref b2, .ref b3, .int (nI cc)])), (b0, .inl (cI, 400, .inl (F 0))), (b1, .inl (cI, 400, .inl (F 1))), (b2, .inl (cI, 400, .inl (F 2))), (b3, .inl (cI, 400, .inl (F 3)))]) [3, 4, 5, 6, 7] rfl) rfl rfl) rfl rfl hl.1 rfl (lv_room (Nat.le_of_ble_eq_true rfl)) dX3_count_81 ⟨(Nat.zero_le _), (Nat.zero_le _)⟩)) (fun r_5 er_5 => ?_)
      obtain rfl : r_5 = if 0 ≤ (nI (es_tk F cc)) ∧ (nI (es_tk F cc)) < nI cc then F 0 (nI (es_tk F cc)).toNatClampNeg else -1 := er_5
      refine lv_goto (tgt := 88) hx hb dX3_count_84 (by decide) ?_
      exact W.iret (v := if 0 ≤ (nI (es_tk F cc)) ∧ (nI (es_tk F cc)) < nI cc then F 0 (nI (es_tk F cc)).toNatClampNeg else -1) hx hb hr (fun zt ht hW => ⟨_, rfl, (by show _ = _; first | exact es_ct2 hc c_67 | exact es_ct2n c_67), ht⟩) (fun _ h => by cases h) dX3_count_88
  by_cases c_1 : x = 3
  ·
    subst c_1
    refine lv_tableIn (tgt := 89) hx hb dX3_count_1 (by decide) (by decide) (off := 88) (by decide) (by decide) ?_
    refine lv_aload_n hx hb dX3_count_89 rfl (lv_at hl 0 rfl) ?_
    refine va_get (D := D) (ci := 3) (v := .ref f) (C := RX3) (T := TX3) (N := 7) hx hb hw iwX3 hown hK.1 hP 0 rfl rfl 2 (by decide) (hw _ xw_146) (fun _ h9 => h9) rfl dX3_count_90 ?_
    refine vp_callSi (va_Run.run (va_runV (As := []) (rest := []) ⟨hx, hb, hml, hown, hw⟩ (c_X0_failed l D cI f b0 b1 b2 b3 F cc (by first | assumption | omega)) (cwV 0 hw (es_v xw_99 xw_167 xw_101 xw_102 xw_83) rfl rfl rfl kv_X0_failed ⟨Nat.le_trans (Nat.le_of_ble_eq_true rfl) hRm.1, Nat.le_trans (Nat.le_of_ble_eq_true rfl) hRm.2⟩) (es_RV hK (hP.sub (ws' := [(f, .inr (0, [.ref b0, .ref b1, .ref b2, .ref b3, .int (nI cc)])), (b0, .inl (cI, 400, .inl (F 0))), (b1, .inl (cI, 400, .inl (F 1))), (b2, .inl (cI, 400, .inl (F 2))), (b3, .inl (cI, 400, .inl (F 3)))]) [3, 4, 5, 6, 7] rfl) rfl rfl) rfl rfl hl.1 rfl (lv_room (Nat.le_of_ble_eq_true rfl)) dX3_count_93 ⟨(Nat.zero_le _), (Nat.zero_le _)⟩)) (fun r_6 er_6 => ?_)
    obtain rfl : r_6 = if 0 < cc ∧ F 1 (cc - 1) = 0 then (1 : Int32) else 0 := er_6
    refine lv_if_eq (tgt := 116) hx hb dX3_count_96 (by decide) (fun c_96 => ?_) (fun c_96 => ?_)
    ·
      have c_96 := es_if0 c_96
      refine lv_iconst (v := nI 0) hx hb dX3_count_116 (by decide) ?_
      exact W.iret (v := nI 0) hx hb hr (fun zt ht hW => ⟨_, rfl, (by show _ = _; first | exact es_ct3 hc c_96 | exact es_ct3n c_96), ht⟩) (fun _ h => by cases h) dX3_count_117
    ·
      have c_96 := es_if1 c_96
      refine lv_aload_n hx hb dX3_count_99 rfl (lv_at hl 0 rfl) ?_
      refine va_get (D := D) (ci := 3) (v := .ref f) (C := RX3) (T := TX3) (N := 7) hx hb hw iwX3 hown hK.1 hP 0 rfl rfl 2 (by decide) (hw _ xw_146) (fun _ h9 => h9) rfl dX3_count_100 ?_
      refine lv_aload_n hx hb dX3_count_103 rfl (lv_at hl 0 rfl) ?_
      refine va_get (D := D) (ci := 3) (v := .ref f) (C := RX3) (T := TX3) (N := 7) hx hb hw iwX3 hown hK.1 hP 0 rfl rfl 2 (by decide) (hw _ xw_146) (fun _ h9 => h9) rfl dX3_count_104 ?_
      refine vp_callSi (va_Run.run (va_runV (As := []) (rest := [.ref f]) ⟨hx, hb, hml, hown, hw⟩ (c_X0_tokens l D cI f b0 b1 b2 b3 F cc (by first | assumption | omega)) (cwV 0 hw (es_v xw_147 xw_148 xw_149 xw_150 xw_83) rfl rfl rfl kv_X0_tokens ⟨Nat.le_trans (Nat.le_of_ble_eq_true rfl) hRm.1, Nat.le_trans (Nat.le_of_ble_eq_true rfl) hRm.2⟩) (es_RV hK (hP.sub (ws' := [(f, .inr (0, [.ref b0, .ref b1, .ref b2, .ref b3, .int (nI cc)])), (b0, .inl (cI, 400, .inl (F 0))), (b1, .inl (cI, 400, .inl (F 1))), (b2, .inl (cI, 400, .inl (F 2))), (b3, .inl (cI, 400, .inl (F 3)))]) [3, 4, 5, 6, 7] rfl) rfl rfl) rfl rfl hl.1 rfl (lv_room (Nat.le_of_ble_eq_true rfl)) dX3_count_107 ⟨(Nat.zero_le _), (Nat.zero_le _)⟩)) (fun r_7 er_7 => ?_)
      obtain rfl : r_7 = nI (es_tk F cc) := er_7
      refine vp_callSi (va_Run.run (va_runV (As := [.int (nI (es_tk F cc))]) (rest := []) ⟨hx, hb, hml, hown, hw⟩ (c_X0_looked l D cI f b0 b1 b2 b3 F cc (nI (es_tk F cc)) (by first | assumption | omega)) (cwV 1 hw (es_v xw_172 xw_173 xw_174 xw_175 xw_83) rfl rfl rfl kv_X0_looked ⟨Nat.le_trans (Nat.le_of_ble_eq_true rfl) hRm.1, Nat.le_trans (Nat.le_of_ble_eq_true rfl) hRm.2⟩) (es_RV hK (hP.sub (ws' := [(f, .inr (0, [.ref b0, .ref b1, .ref b2, .ref b3, .int (nI cc)])), (b0, .inl (cI, 400, .inl (F 0))), (b1, .inl (cI, 400, .inl (F 1))), (b2, .inl (cI, 400, .inl (F 2))), (b3, .inl (cI, 400, .inl (F 3)))]) [3, 4, 5, 6, 7] rfl) rfl rfl) rfl rfl hl.1 rfl (lv_room (Nat.le_of_ble_eq_true rfl)) dX3_count_110 ⟨(Nat.zero_le _), (Nat.zero_le _)⟩)) (fun r_8 er_8 => ?_)
      obtain rfl : r_8 = if 0 ≤ (nI (es_tk F cc)) ∧ (nI (es_tk F cc)) < nI cc then F 3 (nI (es_tk F cc)).toNatClampNeg else -1 := er_8
      refine lv_goto (tgt := 117) hx hb dX3_count_113 (by decide) ?_
      exact W.iret (v := if 0 ≤ (nI (es_tk F cc)) ∧ (nI (es_tk F cc)) < nI cc then F 3 (nI (es_tk F cc)).toNatClampNeg else -1) hx hb hr (fun zt ht hW => ⟨_, rfl, (by show _ = _; first | exact es_ct3 hc c_96 | exact es_ct3n c_96), ht⟩) (fun _ h => by cases h) dX3_count_117
  by_cases c_1 : x = 4
  ·
    subst c_1
    refine lv_tableIn (tgt := 118) hx hb dX3_count_1 (by decide) (by decide) (off := 117) (by decide) (by decide) ?_
    refine lv_aload_n hx hb dX3_count_118 rfl (lv_at hl 0 rfl) ?_
    refine va_get (D := D) (ci := 3) (v := .int (nI rd)) (C := RX3) (T := TX3) (N := 7) hx hb hw iwX3 hown hK.1 hP 0 rfl rfl 4 (by decide) (hw _ xw_160) (fun _ h9 => h9) rfl dX3_count_119 ?_
    exact W.iret (v := nI rd) hx hb hr (fun zt ht hW => ⟨_, rfl, rfl, ht⟩) (fun _ h => by cases h) dX3_count_122
  by_cases c_1 : x = 5
  ·
    subst c_1
    refine lv_tableIn (tgt := 123) hx hb dX3_count_1 (by decide) (by decide) (off := 122) (by decide) (by decide) ?_
    refine lv_aload_n hx hb dX3_count_123 rfl (lv_at hl 0 rfl) ?_
    refine va_get (D := D) (ci := 3) (v := .int (nI sc)) (C := RX3) (T := TX3) (N := 7) hx hb hw iwX3 hown hK.1 hP 0 rfl rfl 5 (by decide) (hw _ xw_161) (fun _ h9 => h9) rfl dX3_count_124 ?_
    exact W.iret (v := nI sc) hx hb hr (fun zt ht hW => ⟨_, rfl, rfl, ht⟩) (fun _ h => by cases h) dX3_count_127
  by_cases c_1 : x = 6
  ·
    subst c_1
    refine lv_tableIn (tgt := 128) hx hb dX3_count_1 (by decide) (by decide) (off := 127) (by decide) (by decide) ?_
    refine lv_aload_n hx hb dX3_count_128 rfl (lv_at hl 0 rfl) ?_
    refine va_get (D := D) (ci := 3) (v := .int (nI ed)) (C := RX3) (T := TX3) (N := 7) hx hb hw iwX3 hown hK.1 hP 0 rfl rfl 6 (by decide) (hw _ xw_162) (fun _ h9 => h9) rfl dX3_count_129 ?_
    exact W.iret (v := nI ed) hx hb hr (fun zt ht hW => ⟨_, rfl, rfl, ht⟩) (fun _ h => by cases h) dX3_count_132
  refine lv_tableOut (tgt := 133) hx hb dX3_count_1 (es_out7 (by assumption) (by assumption) (by assumption) (by assumption) (by assumption) (by assumption) (by assumption)) (by decide) ?_
  refine lv_iconst (v := (-1)) hx hb dX3_count_133 (by decide) ?_
  exact W.iret (v := (-1)) hx hb hr (fun zt ht hW => ⟨_, rfl, (by show _ = _; unfold es_ct; rw [if_neg (by assumption), if_neg (by assumption), if_neg (by assumption), if_neg (by assumption), if_neg (by assumption), if_neg (by assumption), if_neg (by assumption)]), ht⟩) (fun _ h => by cases h) dX3_count_134
set_option maxHeartbeats 1000000 in
set_option maxRecDepth 100000 in
/-- X3.clear  -/
theorem c_X3_clear (l : Launch) (D : va_G) (cI : ClassId) (sz : Nat) (h : Nat) (tb : Nat) (a : Nat) (k : Nat) (ar : Nat → Int32) (ki : Nat → Int32) (t : Nat) (r : Nat) (tx : Nat → Int32) (n : Nat) (f : Nat) (b0 : Nat) (b1 : Nat) (b2 : Nat) (b3 : Nat) (F : Nat → Nat → Int32) (cc : Nat) (g : Nat) (g0 : Nat) (g1 : Nat) (g2 : Nat) (g3 : Nat) (G : Nat → Nat → Int32) (gn : Nat) (rd : Nat) (sc : Nat) (ed : Nat) (hc : cc ≤ 400) : Met l yX3_clear (Cond.code yX3_clear cX3_clear 2 (some .int) :: es_T) { frames := 2, cells := 0, slots := 0, locals := 43 } (va_Pc [.ref h] (es_W D cI sz [(h, .inr (3, [.ref tb, .ref t, .ref f, .ref g, .int (nI rd), .int (nI sc), .int (nI ed)])), (tb, .inr (1, [.ref a, .ref k])), (a, .inl (cI, 200, .inl ar)), (k, .inl (cI, 20, .inl ki)), (t, .inr (2, [.ref r, .int (nI n)])), (r, .inl (cI, 400, .inl tx)), (f, .inr (0, [.ref b0, .ref b1, .ref b2, .ref b3, .int (nI cc)])), (b0, .inl (cI, 400, .inl (F 0))), (b1, .inl (cI, 400, .inl (F 1))), (b2, .inl (cI, 400, .inl (F 2))), (b3, .inl (cI, 400, .inl (F 3))), (g, .inr (0, [.ref g0, .ref g1, .ref g2, .ref g3, .int (nI gn)])), (g0, .inl (cI, 400, .inl (G 0))), (g1, .inl (cI, 400, .inl (G 1))), (g2, .inl (cI, 400, .inl (G 2))), (g3, .inl (cI, 400, .inl (G 3)))])) (va_Qi (fun q _ => q = nI (es_tk F cc)) (fun (u : Unit) zt => va_P D vwCl [(h, .inr (3, [.ref tb, .ref t, .ref f, .ref g, .int (nI 0), .int (nI 0), .int (nI 0)])), (tb, .inr (1, [.ref a, .ref k])), (a, .inl (cI, 200, .inl (fun _ => -1))), (k, .inl (cI, 20, .inl (fun _ => -1))), (t, .inr (2, [.ref r, .int (nI 0)])), (r, .inl (cI, 400, .inl tx)), (f, .inr (0, [.ref b0, .ref b1, .ref b2, .ref b3, .int (nI 0)])), (b0, .inl (cI, 400, .inl (F 0))), (b1, .inl (cI, 400, .inl (F 1))), (b2, .inl (cI, 400, .inl (F 2))), (b3, .inl (cI, 400, .inl (F 3))), (g, .inr (0, [.ref g0, .ref g1, .ref g2, .ref g3, .int (nI gn)])), (g0, .inl (cI, 400, .inl (G 0))), (g1, .inl (cI, 400, .inl (G 1))), (g2, .inl (cI, 400, .inl (G 2))), (g3, .inl (cI, 400, .inl (G 3)))] zt.heap ∧ va_D (va_A [(h, .inr (3, [.ref tb, .ref t, .ref f, .ref g, .int (nI rd), .int (nI sc), .int (nI ed)])), (tb, .inr (1, [.ref a, .ref k])), (a, .inl (cI, 200, .inl ar)), (k, .inl (cI, 20, .inl ki)), (t, .inr (2, [.ref r, .int (nI n)])), (r, .inl (cI, 400, .inl tx)), (f, .inr (0, [.ref b0, .ref b1, .ref b2, .ref b3, .int (nI cc)])), (b0, .inl (cI, 400, .inl (F 0))), (b1, .inl (cI, 400, .inl (F 1))), (b2, .inl (cI, 400, .inl (F 2))), (b3, .inl (cI, 400, .inl (F 3))), (g, .inr (0, [.ref g0, .ref g1, .ref g2, .ref g3, .int (nI gn)])), (g0, .inl (cI, 400, .inl (G 0))), (g1, .inl (cI, 400, .inl (G 1))), (g2, .inl (cI, 400, .inl (G 2))), (g3, .inl (cI, 400, .inl (G 3)))] sz) [(h, .inr (3, [.ref tb, .ref t, .ref f, .ref g, .int (nI 0), .int (nI 0), .int (nI 0)])), (tb, .inr (1, [.ref a, .ref k])), (a, .inl (cI, 200, .inl (fun _ => -1))), (k, .inl (cI, 20, .inl (fun _ => -1))), (t, .inr (2, [.ref r, .int (nI 0)])), (r, .inl (cI, 400, .inl tx)), (f, .inr (0, [.ref b0, .ref b1, .ref b2, .ref b3, .int (nI 0)])), (b0, .inl (cI, 400, .inl (F 0))), (b1, .inl (cI, 400, .inl (F 1))), (b2, .inl (cI, 400, .inl (F 2))), (b3, .inl (cI, 400, .inl (F 3))), (g, .inr (0, [.ref g0, .ref g1, .ref g2, .ref g3, .int (nI gn)])), (g0, .inl (cI, 400, .inl (G 0))), (g1, .inl (cI, 400, .inl (G 1))), (g2, .inl (cI, 400, .inl (G 2))), (g3, .inl (cI, 400, .inl (G 3)))]) (va_A [(h, .inr (3, [.ref tb, .ref t, .ref f, .ref g, .int (nI rd), .int (nI sc), .int (nI ed)])), (tb, .inr (1, [.ref a, .ref k])), (a, .inl (cI, 200, .inl ar)), (k, .inl (cI, 20, .inl ki)), (t, .inr (2, [.ref r, .int (nI n)])), (r, .inl (cI, 400, .inl tx)), (f, .inr (0, [.ref b0, .ref b1, .ref b2, .ref b3, .int (nI cc)])), (b0, .inl (cI, 400, .inl (F 0))), (b1, .inl (cI, 400, .inl (F 1))), (b2, .inl (cI, 400, .inl (F 2))), (b3, .inl (cI, 400, .inl (F 3))), (g, .inr (0, [.ref g0, .ref g1, .ref g2, .ref g3, .int (nI gn)])), (g0, .inl (cI, 400, .inl (G 0))), (g1, .inl (cI, 400, .inl (G 1))), (g2, .inl (cI, 400, .inl (G 2))), (g3, .inl (cI, 400, .inl (G 3)))] sz)) 0 0 (va_A [(h, .inr (3, [.ref tb, .ref t, .ref f, .ref g, .int (nI rd), .int (nI sc), .int (nI ed)])), (tb, .inr (1, [.ref a, .ref k])), (a, .inl (cI, 200, .inl ar)), (k, .inl (cI, 20, .inl ki)), (t, .inr (2, [.ref r, .int (nI n)])), (r, .inl (cI, 400, .inl tx)), (f, .inr (0, [.ref b0, .ref b1, .ref b2, .ref b3, .int (nI cc)])), (b0, .inl (cI, 400, .inl (F 0))), (b1, .inl (cI, 400, .inl (F 1))), (b2, .inl (cI, 400, .inl (F 2))), (b3, .inl (cI, 400, .inl (F 3))), (g, .inr (0, [.ref g0, .ref g1, .ref g2, .ref g3, .int (nI gn)])), (g0, .inl (cI, 400, .inl (G 0))), (g1, .inl (cI, 400, .inl (G 1))), (g2, .inl (cI, 400, .inl (G 2))), (g3, .inl (cI, 400, .inl (G 3)))] sz) := by
  refine Met.ofW (cc := cX3_clear) (maxL := 2) (ret := (some .int)) (by decide) rfl ?_
  intro p e s m args below meth c s₁ B hml hv
  obtain ⟨rfl, hsz, hP, hK, hD0⟩ := hv
  have hx := B.exec
  have hb := B.bytes
  have hr := B.returns
  have hts := atoms_spec (ws := (Cond.code yX3_clear cX3_clear 2 (some .int) :: es_T)) B.pre
  have hw : ∀ w ∈ es_T, w.before _ s = true := fun w h => hts w (List.mem_cons_of_mem _ h)
  have hown : s.vm.findClass RX3 = some m.cls := findClass_of_methodNamed B.named
  have hlocks := B.notSynchronized
  have hRm : 2 ≤ (headSpec (Cond.code yX3_clear cX3_clear 2 (some .int) :: es_T) { frames := 2, cells := 0, slots := 0, locals := 43 }).room.frames ∧ 43 ≤ (headSpec (Cond.code yX3_clear cX3_clear 2 (some .int) :: es_T) { frames := 2, cells := 0, slots := 0, locals := 43 }).room.locals := ⟨Nat.le_refl _, Nat.le_refl _⟩
  have hRc : 0 ≤ (headSpec (Cond.code yX3_clear cX3_clear 2 (some .int) :: es_T) { frames := 2, cells := 0, slots := 0, locals := 43 }).room.cells ∧ 0 ≤ (headSpec (Cond.code yX3_clear cX3_clear 2 (some .int) :: es_T) { frames := 2, cells := 0, slots := 0, locals := 43 }).room.slots := ⟨Nat.le_refl _, Nat.le_refl _⟩
  subst hsz
  have hD := hD0.self (sz := s.heap.size)
  generalize hAe : va_A [(h, .inr (3, [.ref tb, .ref t, .ref f, .ref g, .int (nI rd), .int (nI sc), .int (nI ed)])), (tb, .inr (1, [.ref a, .ref k])), (a, .inl (cI, 200, .inl ar)), (k, .inl (cI, 20, .inl ki)), (t, .inr (2, [.ref r, .int (nI n)])), (r, .inl (cI, 400, .inl tx)), (f, .inr (0, [.ref b0, .ref b1, .ref b2, .ref b3, .int (nI cc)])), (b0, .inl (cI, 400, .inl (F 0))), (b1, .inl (cI, 400, .inl (F 1))), (b2, .inl (cI, 400, .inl (F 2))), (b3, .inl (cI, 400, .inl (F 3))), (g, .inr (0, [.ref g0, .ref g1, .ref g2, .ref g3, .int (nI gn)])), (g0, .inl (cI, 400, .inl (G 0))), (g1, .inl (cI, 400, .inl (G 1))), (g2, .inl (cI, 400, .inl (G 2))), (g3, .inl (cI, 400, .inl (G 3)))] s.heap.size = A at hD ⊢
  have hA : ∀ q : Nat, s.heap.size ≤ q → A q := fun q h => by rw [← hAe]; exact Or.inr h
  have hS : va_S A s.heap s.heap [] := va_S.rf
  have hl := lv_entry ([.ref h]) (n := 2) (Nat.le_of_ble_eq_true rfl)
  rw [lg_entry_eq]
  generalize (lg_sl ([.ref h]) ++ List.replicate (2 - (lg_sl ([.ref h])).length) Slot.unset).toArray = ls at hl ⊢
  have hl : lv_has ls 2 [(0, .ref h)] := hl
  refine lv_aload_n hx hb dX3_clear_0 rfl (lv_at hl 0 rfl) ?_
  refine va_get (D := D) (ci := 3) (v := .ref f) (C := RX3) (T := TX3) (N := 7) hx hb hw iwX3 hown hK.1 hP 0 rfl rfl 2 (by decide) (hw _ xw_146) (fun _ h9 => h9) rfl dX3_clear_1 ?_
  refine vp_callSi (va_Run.run (va_runV (As := []) (rest := []) ⟨hx, hb, hml, hown, hw⟩ (c_X0_tokens l D cI f b0 b1 b2 b3 F cc (by first | assumption | omega)) (cwV 0 hw (es_v xw_147 xw_148 xw_149 xw_150 xw_83) rfl rfl rfl kv_X0_tokens ⟨Nat.le_trans (Nat.le_of_ble_eq_true rfl) hRm.1, Nat.le_trans (Nat.le_of_ble_eq_true rfl) hRm.2⟩) (es_RV hK (hP.sub (ws' := [(f, .inr (0, [.ref b0, .ref b1, .ref b2, .ref b3, .int (nI cc)])), (b0, .inl (cI, 400, .inl (F 0))), (b1, .inl (cI, 400, .inl (F 1))), (b2, .inl (cI, 400, .inl (F 2))), (b3, .inl (cI, 400, .inl (F 3)))]) [6, 7, 8, 9, 10] rfl) rfl rfl) rfl rfl hl.1 rfl (lv_room (Nat.le_of_ble_eq_true rfl)) dX3_clear_4 ⟨(Nat.zero_le _), (Nat.zero_le _)⟩)) (fun r_1 er_1 => ?_)
  obtain rfl : r_1 = nI (es_tk F cc) := er_1
  refine lv_istore_n (lv' := [(1, .int (nI (es_tk F cc))), (0, .ref h)]) hx hb dX3_clear_7 rfl hl (by decide) rfl (fun ls hl => ?_)
  refine lv_aload_n hx hb dX3_clear_8 rfl (lv_at hl 1 rfl) ?_
  refine va_get (D := D) (ci := 3) (v := .ref tb) (C := RX3) (T := TX3) (N := 7) hx hb hw iwX3 hown hK.1 hP 0 rfl rfl 0 (by decide) (hw _ xw_141) (fun _ h9 => h9) rfl dX3_clear_9 ?_
  refine es_cv (wr := [(h, .inr (3, [.ref tb, .ref t, .ref f, .ref g, .int (nI rd), .int (nI sc), .int (nI ed)])), (t, .inr (2, [.ref r, .int (nI n)])), (r, .inl (cI, 400, .inl tx)), (f, .inr (0, [.ref b0, .ref b1, .ref b2, .ref b3, .int (nI cc)])), (b0, .inl (cI, 400, .inl (F 0))), (b1, .inl (cI, 400, .inl (F 1))), (b2, .inl (cI, 400, .inl (F 2))), (b3, .inl (cI, 400, .inl (F 3))), (g, .inr (0, [.ref g0, .ref g1, .ref g2, .ref g3, .int (nI gn)])), (g0, .inl (cI, 400, .inl (G 0))), (g1, .inl (cI, 400, .inl (G 1))), (g2, .inl (cI, 400, .inl (G 2))), (g3, .inl (cI, 400, .inl (G 3)))]) (va_runV (As := []) (rest := []) ⟨hx, hb, hml, hown, hw⟩ (c_X1_forget l D cI s.heap.size tb a k ar ki ) (cwV 0 hw (es_v xw_110 xw_151 xw_113 xw_114 xw_111) rfl rfl rfl kv_X1_forget ⟨Nat.le_trans (Nat.le_of_ble_eq_true rfl) hRm.1, Nat.le_trans (Nat.le_of_ble_eq_true rfl) hRm.2⟩) (es_WV hK (hP.sub (ws' := [(tb, .inr (1, [.ref a, .ref k])), (a, .inl (cI, 200, .inl ar)), (k, .inl (cI, 20, .inl ki))]) [1, 2, 3] rfl) (hD.sub (ws' := [(tb, .inr (1, [.ref a, .ref k])), (a, .inl (cI, 200, .inl ar)), (k, .inl (cI, 20, .inl ki))]) [1, 2, 3] (by decide) rfl) rfl rfl) rfl rfl hl.1 rfl (lv_room (Nat.le_of_ble_eq_true rfl)) dX3_clear_12 ⟨(Nat.zero_le _), (Nat.zero_le _)⟩) hP hD hS hA [1, 2, 3] [0, 4, 5, 6, 7, 8, 9, 10, 11, 12, 13, 14, 15] rfl rfl (by decide) (by decide) (fun u_2 H locs hu_2 hP hD hS => ?_)
  have hP : va_P D vwCl [(h, .inr (3, [.ref tb, .ref t, .ref f, .ref g, .int (nI rd), .int (nI sc), .int (nI ed)])), (t, .inr (2, [.ref r, .int (nI n)])), (r, .inl (cI, 400, .inl tx)), (f, .inr (0, [.ref b0, .ref b1, .ref b2, .ref b3, .int (nI cc)])), (b0, .inl (cI, 400, .inl (F 0))), (b1, .inl (cI, 400, .inl (F 1))), (b2, .inl (cI, 400, .inl (F 2))), (b3, .inl (cI, 400, .inl (F 3))), (g, .inr (0, [.ref g0, .ref g1, .ref g2, .ref g3, .int (nI gn)])), (g0, .inl (cI, 400, .inl (G 0))), (g1, .inl (cI, 400, .inl (G 1))), (g2, .inl (cI, 400, .inl (G 2))), (g3, .inl (cI, 400, .inl (G 3))), (tb, .inr (1, [.ref a, .ref k])), (a, .inl (cI, 200, .inl (fun _ => -1))), (k, .inl (cI, 20, .inl (fun _ => -1)))] H := hP
  have hD : va_D A [(h, .inr (3, [.ref tb, .ref t, .ref f, .ref g, .int (nI rd), .int (nI sc), .int (nI ed)])), (t, .inr (2, [.ref r, .int (nI n)])), (r, .inl (cI, 400, .inl tx)), (f, .inr (0, [.ref b0, .ref b1, .ref b2, .ref b3, .int (nI cc)])), (b0, .inl (cI, 400, .inl (F 0))), (b1, .inl (cI, 400, .inl (F 1))), (b2, .inl (cI, 400, .inl (F 2))), (b3, .inl (cI, 400, .inl (F 3))), (g, .inr (0, [.ref g0, .ref g1, .ref g2, .ref g3, .int (nI gn)])), (g0, .inl (cI, 400, .inl (G 0))), (g1, .inl (cI, 400, .inl (G 1))), (g2, .inl (cI, 400, .inl (G 2))), (g3, .inl (cI, 400, .inl (G 3))), (tb, .inr (1, [.ref a, .ref k])), (a, .inl (cI, 200, .inl (fun _ => -1))), (k, .inl (cI, 20, .inl (fun _ => -1)))] := hD
  refine lv_aload_n hx hb dX3_clear_15 rfl (lv_at hl 1 rfl) ?_
  refine va_get (D := D) (ci := 3) (v := .ref t) (C := RX3) (T := TX3) (N := 7) hx hb hw iwX3 hown hK.1 hP 0 rfl rfl 1 (by decide) (hw _ xw_136) (fun _ h9 => h9) rfl dX3_clear_16 ?_
  refine es_cv (wr := [(h, .inr (3, [.ref tb, .ref t, .ref f, .ref g, .int (nI rd), .int (nI sc), .int (nI ed)])), (f, .inr (0, [.ref b0, .ref b1, .ref b2, .ref b3, .int (nI cc)])), (b0, .inl (cI, 400, .inl (F 0))), (b1, .inl (cI, 400, .inl (F 1))), (b2, .inl (cI, 400, .inl (F 2))), (b3, .inl (cI, 400, .inl (F 3))), (g, .inr (0, [.ref g0, .ref g1, .ref g2, .ref g3, .int (nI gn)])), (g0, .inl (cI, 400, .inl (G 0))), (g1, .inl (cI, 400, .inl (G 1))), (g2, .inl (cI, 400, .inl (G 2))), (g3, .inl (cI, 400, .inl (G 3))), (tb, .inr (1, [.ref a, .ref k])), (a, .inl (cI, 200, .inl (fun _ => -1))), (k, .inl (cI, 20, .inl (fun _ => -1)))]) (va_runV (As := []) (rest := []) ⟨hx, hb, hml, hown, hw⟩ (c_X2_forget l D cI H.size t r tx n ) (cwV 0 hw (es_v xw_152 xw_153 xw_154 xw_155 xw_125) rfl rfl rfl kv_X2_forget ⟨Nat.le_trans (Nat.le_of_ble_eq_true rfl) hRm.1, Nat.le_trans (Nat.le_of_ble_eq_true rfl) hRm.2⟩) (es_WV hK (hP.sub (ws' := [(t, .inr (2, [.ref r, .int (nI n)])), (r, .inl (cI, 400, .inl tx))]) [1, 2] rfl) (hD.sub (ws' := [(t, .inr (2, [.ref r, .int (nI n)])), (r, .inl (cI, 400, .inl tx))]) [1, 2] (by decide) rfl) rfl rfl) rfl rfl hl.1 rfl (lv_room (Nat.le_of_ble_eq_true rfl)) dX3_clear_19 ⟨(Nat.zero_le _), (Nat.zero_le _)⟩) hP hD hS hA [1, 2] [0, 3, 4, 5, 6, 7, 8, 9, 10, 11, 12, 13, 14, 15] rfl rfl (by decide) (by decide) (fun u_4 H locs hu_4 hP hD hS => ?_)
  have hP : va_P D vwCl [(h, .inr (3, [.ref tb, .ref t, .ref f, .ref g, .int (nI rd), .int (nI sc), .int (nI ed)])), (f, .inr (0, [.ref b0, .ref b1, .ref b2, .ref b3, .int (nI cc)])), (b0, .inl (cI, 400, .inl (F 0))), (b1, .inl (cI, 400, .inl (F 1))), (b2, .inl (cI, 400, .inl (F 2))), (b3, .inl (cI, 400, .inl (F 3))), (g, .inr (0, [.ref g0, .ref g1, .ref g2, .ref g3, .int (nI gn)])), (g0, .inl (cI, 400, .inl (G 0))), (g1, .inl (cI, 400, .inl (G 1))), (g2, .inl (cI, 400, .inl (G 2))), (g3, .inl (cI, 400, .inl (G 3))), (tb, .inr (1, [.ref a, .ref k])), (a, .inl (cI, 200, .inl (fun _ => -1))), (k, .inl (cI, 20, .inl (fun _ => -1))), (t, .inr (2, [.ref r, .int (nI 0)])), (r, .inl (cI, 400, .inl tx))] H := hP
  have hD : va_D A [(h, .inr (3, [.ref tb, .ref t, .ref f, .ref g, .int (nI rd), .int (nI sc), .int (nI ed)])), (f, .inr (0, [.ref b0, .ref b1, .ref b2, .ref b3, .int (nI cc)])), (b0, .inl (cI, 400, .inl (F 0))), (b1, .inl (cI, 400, .inl (F 1))), (b2, .inl (cI, 400, .inl (F 2))), (b3, .inl (cI, 400, .inl (F 3))), (g, .inr (0, [.ref g0, .ref g1, .ref g2, .ref g3, .int (nI gn)])), (g0, .inl (cI, 400, .inl (G 0))), (g1, .inl (cI, 400, .inl (G 1))), (g2, .inl (cI, 400, .inl (G 2))), (g3, .inl (cI, 400, .inl (G 3))), (tb, .inr (1, [.ref a, .ref k])), (a, .inl (cI, 200, .inl (fun _ => -1))), (k, .inl (cI, 20, .inl (fun _ => -1))), (t, .inr (2, [.ref r, .int (nI 0)])), (r, .inl (cI, 400, .inl tx))] := hD
  refine lv_aload_n hx hb dX3_clear_22 rfl (lv_at hl 1 rfl) ?_
  refine va_get (D := D) (ci := 3) (v := .ref f) (C := RX3) (T := TX3) (N := 7) hx hb hw iwX3 hown hK.1 hP 0 rfl rfl 2 (by decide) (hw _ xw_146) (fun _ h9 => h9) rfl dX3_clear_23 ?_
  refine es_cv (wr := [(h, .inr (3, [.ref tb, .ref t, .ref f, .ref g, .int (nI rd), .int (nI sc), .int (nI ed)])), (g, .inr (0, [.ref g0, .ref g1, .ref g2, .ref g3, .int (nI gn)])), (g0, .inl (cI, 400, .inl (G 0))), (g1, .inl (cI, 400, .inl (G 1))), (g2, .inl (cI, 400, .inl (G 2))), (g3, .inl (cI, 400, .inl (G 3))), (tb, .inr (1, [.ref a, .ref k])), (a, .inl (cI, 200, .inl (fun _ => -1))), (k, .inl (cI, 20, .inl (fun _ => -1))), (t, .inr (2, [.ref r, .int (nI 0)])), (r, .inl (cI, 400, .inl tx))]) (va_runV (As := []) (rest := []) ⟨hx, hb, hml, hown, hw⟩ (c_X0_forget l D cI H.size f b0 b1 b2 b3 F cc ) (cwV 0 hw (es_v xw_156 xw_157 xw_158 xw_159 xw_83) rfl rfl rfl kv_X0_forget ⟨Nat.le_trans (Nat.le_of_ble_eq_true rfl) hRm.1, Nat.le_trans (Nat.le_of_ble_eq_true rfl) hRm.2⟩) (es_WV hK (hP.sub (ws' := [(f, .inr (0, [.ref b0, .ref b1, .ref b2, .ref b3, .int (nI cc)])), (b0, .inl (cI, 400, .inl (F 0))), (b1, .inl (cI, 400, .inl (F 1))), (b2, .inl (cI, 400, .inl (F 2))), (b3, .inl (cI, 400, .inl (F 3)))]) [1, 2, 3, 4, 5] rfl) (hD.sub (ws' := [(f, .inr (0, [.ref b0, .ref b1, .ref b2, .ref b3, .int (nI cc)])), (b0, .inl (cI, 400, .inl (F 0))), (b1, .inl (cI, 400, .inl (F 1))), (b2, .inl (cI, 400, .inl (F 2))), (b3, .inl (cI, 400, .inl (F 3)))]) [1, 2, 3, 4, 5] (by decide) rfl) rfl rfl) rfl rfl hl.1 rfl (lv_room (Nat.le_of_ble_eq_true rfl)) dX3_clear_26 ⟨(Nat.zero_le _), (Nat.zero_le _)⟩) hP hD hS hA [1, 2, 3, 4, 5] [0, 6, 7, 8, 9, 10, 11, 12, 13, 14, 15] rfl rfl (by decide) (by decide) (fun u_6 H locs hu_6 hP hD hS => ?_)
  have hP : va_P D vwCl [(h, .inr (3, [.ref tb, .ref t, .ref f, .ref g, .int (nI rd), .int (nI sc), .int (nI ed)])), (g, .inr (0, [.ref g0, .ref g1, .ref g2, .ref g3, .int (nI gn)])), (g0, .inl (cI, 400, .inl (G 0))), (g1, .inl (cI, 400, .inl (G 1))), (g2, .inl (cI, 400, .inl (G 2))), (g3, .inl (cI, 400, .inl (G 3))), (tb, .inr (1, [.ref a, .ref k])), (a, .inl (cI, 200, .inl (fun _ => -1))), (k, .inl (cI, 20, .inl (fun _ => -1))), (t, .inr (2, [.ref r, .int (nI 0)])), (r, .inl (cI, 400, .inl tx)), (f, .inr (0, [.ref b0, .ref b1, .ref b2, .ref b3, .int (nI 0)])), (b0, .inl (cI, 400, .inl (F 0))), (b1, .inl (cI, 400, .inl (F 1))), (b2, .inl (cI, 400, .inl (F 2))), (b3, .inl (cI, 400, .inl (F 3)))] H := hP
  have hD : va_D A [(h, .inr (3, [.ref tb, .ref t, .ref f, .ref g, .int (nI rd), .int (nI sc), .int (nI ed)])), (g, .inr (0, [.ref g0, .ref g1, .ref g2, .ref g3, .int (nI gn)])), (g0, .inl (cI, 400, .inl (G 0))), (g1, .inl (cI, 400, .inl (G 1))), (g2, .inl (cI, 400, .inl (G 2))), (g3, .inl (cI, 400, .inl (G 3))), (tb, .inr (1, [.ref a, .ref k])), (a, .inl (cI, 200, .inl (fun _ => -1))), (k, .inl (cI, 20, .inl (fun _ => -1))), (t, .inr (2, [.ref r, .int (nI 0)])), (r, .inl (cI, 400, .inl tx)), (f, .inr (0, [.ref b0, .ref b1, .ref b2, .ref b3, .int (nI 0)])), (b0, .inl (cI, 400, .inl (F 0))), (b1, .inl (cI, 400, .inl (F 1))), (b2, .inl (cI, 400, .inl (F 2))), (b3, .inl (cI, 400, .inl (F 3)))] := hD
  refine lv_aload_n hx hb dX3_clear_29 rfl (lv_at hl 1 rfl) ?_
  refine lv_iconst (v := nI 0) hx hb dX3_clear_30 (by decide) ?_
  refine va_put (D := D) (ci := 3) (v := .int (nI 0)) (ty := .int) (C := RX3) (T := TX3) (N := 7) hx hb hw iwX3 tyX3 tyX3_ok nmX3 hown hK.1 hP hD hS 0 rfl rfl 4 (by decide) (hw _ xw_160) (fun _ h9 => h9) rfl (by decide +kernel) rfl rfl (Nat.le_of_ble_eq_true rfl) dX3_clear_31 (fun H locs hP hD hS => ?_)
  have hP : va_P D vwCl [(h, .inr (3, [.ref tb, .ref t, .ref f, .ref g, .int (nI 0), .int (nI sc), .int (nI ed)])), (g, .inr (0, [.ref g0, .ref g1, .ref g2, .ref g3, .int (nI gn)])), (g0, .inl (cI, 400, .inl (G 0))), (g1, .inl (cI, 400, .inl (G 1))), (g2, .inl (cI, 400, .inl (G 2))), (g3, .inl (cI, 400, .inl (G 3))), (tb, .inr (1, [.ref a, .ref k])), (a, .inl (cI, 200, .inl (fun _ => -1))), (k, .inl (cI, 20, .inl (fun _ => -1))), (t, .inr (2, [.ref r, .int (nI 0)])), (r, .inl (cI, 400, .inl tx)), (f, .inr (0, [.ref b0, .ref b1, .ref b2, .ref b3, .int (nI 0)])), (b0, .inl (cI, 400, .inl (F 0))), (b1, .inl (cI, 400, .inl (F 1))), (b2, .inl (cI, 400, .inl (F 2))), (b3, .inl (cI, 400, .inl (F 3)))] H := hP
  have hD : va_D A [(h, .inr (3, [.ref tb, .ref t, .ref f, .ref g, .int (nI 0), .int (nI sc), .int (nI ed)])), (g, .inr (0, [.ref g0, .ref g1, .ref g2, .ref g3, .int (nI gn)])), (g0, .inl (cI, 400, .inl (G 0))), (g1, .inl (cI, 400, .inl (G 1))), (g2, .inl (cI, 400, .inl (G 2))), (g3, .inl (cI, 400, .inl (G 3))), (tb, .inr (1, [.ref a, .ref k])), (a, .inl (cI, 200, .inl (fun _ => -1))), (k, .inl (cI, 20, .inl (fun _ => -1))), (t, .inr (2, [.ref r, .int (nI 0)])), (r, .inl (cI, 400, .inl tx)), (f, .inr (0, [.ref b0, .ref b1, .ref b2, .ref b3, .int (nI 0)])), (b0, .inl (cI, 400, .inl (F 0))), (b1, .inl (cI, 400, .inl (F 1))), (b2, .inl (cI, 400, .inl (F 2))), (b3, .inl (cI, 400, .inl (F 3)))] := hD
  refine lv_aload_n hx hb dX3_clear_34 rfl (lv_at hl 1 rfl) ?_
  refine lv_iconst (v := nI 0) hx hb dX3_clear_35 (by decide) ?_
  refine va_put (D := D) (ci := 3) (v := .int (nI 0)) (ty := .int) (C := RX3) (T := TX3) (N := 7) hx hb hw iwX3 tyX3 tyX3_ok nmX3 hown hK.1 hP hD hS 0 rfl rfl 5 (by decide) (hw _ xw_161) (fun _ h9 => h9) rfl (by decide +kernel) rfl rfl (Nat.le_of_ble_eq_true rfl) dX3_clear_36 (fun H locs hP hD hS => ?_)
  have hP : va_P D vwCl [(h, .inr (3, [.ref tb, .ref t, .ref f, .ref g, .int (nI 0), .int (nI 0), .int (nI ed)])), (g, .inr (0, [.ref g0, .ref g1, .ref g2, .ref g3, .int (nI gn)])), (g0, .inl (cI, 400, .inl (G 0))), (g1, .inl (cI, 400, .inl (G 1))), (g2, .inl (cI, 400, .inl (G 2))), (g3, .inl (cI, 400, .inl (G 3))), (tb, .inr (1, [.ref a, .ref k])), (a, .inl (cI, 200, .inl (fun _ => -1))), (k, .inl (cI, 20, .inl (fun _ => -1))), (t, .inr (2, [.ref r, .int (nI 0)])), (r, .inl (cI, 400, .inl tx)), (f, .inr (0, [.ref b0, .ref b1, .ref b2, .ref b3, .int (nI 0)])), (b0, .inl (cI, 400, .inl (F 0))), (b1, .inl (cI, 400, .inl (F 1))), (b2, .inl (cI, 400, .inl (F 2))), (b3, .inl (cI, 400, .inl (F 3)))] H := hP
  have hD : va_D A [(h, .inr (3, [.ref tb, .ref t, .ref f, .ref g, .int (nI 0), .int (nI 0), .int (nI ed)])), (g, .inr (0, [.ref g0, .ref g1, .ref g2, .ref g3, .int (nI gn)])), (g0, .inl (cI, 400, .inl (G 0))), (g1, .inl (cI, 400, .inl (G 1))), (g2, .inl (cI, 400, .inl (G 2))), (g3, .inl (cI, 400, .inl (G 3))), (tb, .inr (1, [.ref a, .ref k])), (a, .inl (cI, 200, .inl (fun _ => -1))), (k, .inl (cI, 20, .inl (fun _ => -1))), (t, .inr (2, [.ref r, .int (nI 0)])), (r, .inl (cI, 400, .inl tx)), (f, .inr (0, [.ref b0, .ref b1, .ref b2, .ref b3, .int (nI 0)])), (b0, .inl (cI, 400, .inl (F 0))), (b1, .inl (cI, 400, .inl (F 1))), (b2, .inl (cI, 400, .inl (F 2))), (b3, .inl (cI, 400, .inl (F 3)))] := hD
  refine lv_aload_n hx hb dX3_clear_39 rfl (lv_at hl 1 rfl) ?_
  refine lv_iconst (v := nI 0) hx hb dX3_clear_40 (by decide) ?_
  refine va_put (D := D) (ci := 3) (v := .int (nI 0)) (ty := .int) (C := RX3) (T := TX3) (N := 7) hx hb hw iwX3 tyX3 tyX3_ok nmX3 hown hK.1 hP hD hS 0 rfl rfl 6 (by decide) (hw _ xw_162) (fun _ h9 => h9) rfl (by decide +kernel) rfl rfl (Nat.le_of_ble_eq_true rfl) dX3_clear_41 (fun H locs hP hD hS => ?_)
  have hP : va_P D vwCl [(h, .inr (3, [.ref tb, .ref t, .ref f, .ref g, .int (nI 0), .int (nI 0), .int (nI 0)])), (g, .inr (0, [.ref g0, .ref g1, .ref g2, .ref g3, .int (nI gn)])), (g0, .inl (cI, 400, .inl (G 0))), (g1, .inl (cI, 400, .inl (G 1))), (g2, .inl (cI, 400, .inl (G 2))), (g3, .inl (cI, 400, .inl (G 3))), (tb, .inr (1, [.ref a, .ref k])), (a, .inl (cI, 200, .inl (fun _ => -1))), (k, .inl (cI, 20, .inl (fun _ => -1))), (t, .inr (2, [.ref r, .int (nI 0)])), (r, .inl (cI, 400, .inl tx)), (f, .inr (0, [.ref b0, .ref b1, .ref b2, .ref b3, .int (nI 0)])), (b0, .inl (cI, 400, .inl (F 0))), (b1, .inl (cI, 400, .inl (F 1))), (b2, .inl (cI, 400, .inl (F 2))), (b3, .inl (cI, 400, .inl (F 3)))] H := hP
  have hD : va_D A [(h, .inr (3, [.ref tb, .ref t, .ref f, .ref g, .int (nI 0), .int (nI 0), .int (nI 0)])), (g, .inr (0, [.ref g0, .ref g1, .ref g2, .ref g3, .int (nI gn)])), (g0, .inl (cI, 400, .inl (G 0))), (g1, .inl (cI, 400, .inl (G 1))), (g2, .inl (cI, 400, .inl (G 2))), (g3, .inl (cI, 400, .inl (G 3))), (tb, .inr (1, [.ref a, .ref k])), (a, .inl (cI, 200, .inl (fun _ => -1))), (k, .inl (cI, 20, .inl (fun _ => -1))), (t, .inr (2, [.ref r, .int (nI 0)])), (r, .inl (cI, 400, .inl tx)), (f, .inr (0, [.ref b0, .ref b1, .ref b2, .ref b3, .int (nI 0)])), (b0, .inl (cI, 400, .inl (F 0))), (b1, .inl (cI, 400, .inl (F 1))), (b2, .inl (cI, 400, .inl (F 2))), (b3, .inl (cI, 400, .inl (F 3)))] := hD
  refine lv_iload_n hx hb dX3_clear_44 rfl (lv_at hl 0 rfl) ?_
  exact W.iret (v := nI (es_tk F cc)) hx hb hr (fun zt ht hW => ⟨⟨_, (), rfl, rfl, ⟨by rw [ht]; exact hP.sub [0, 6, 7, 8, 9, 10, 11, 12, 13, 14, 15, 1, 2, 3, 4, 5] rfl, hD.sub [0, 6, 7, 8, 9, 10, 11, 12, 13, 14, 15, 1, 2, 3, 4, 5] (by decide) rfl⟩⟩, hS.F ht⟩) hS.2.2 dX3_clear_45
set_option maxHeartbeats 1000000 in
set_option maxRecDepth 100000 in
/-- X3.init  -/
theorem c_X3_init (l : Launch) (D : va_G) (cI : ClassId) (sz : Nat) (h : Nat)  : Met l yX3_init (Cond.code yX3_init cX3_init 1 none :: es_T) { frames := 3, cells := 15, slots := 3834, locals := 63 } (va_Pc [.ref h] (es_W D cI sz [(h, .inr (3, [.null, .null, .null, .null, .int 0, .int 0, .int 0]))])) (va_Qv (fun _ => True) (fun (u : (Nat × Nat × Nat) × (Nat × Nat) × (Nat × Nat × Nat × Nat × Nat) × (Nat × Nat × Nat × Nat × Nat)) zt => va_P D vwCl [(h, .inr (3, [.ref u.1.1, .ref u.2.1.1, .ref u.2.2.1.1, .ref u.2.2.2.1, .int (nI 0), .int (nI 0), .int (nI 0)])), (u.1.1, .inr (1, [.ref u.1.2.1, .ref u.1.2.2])), (u.1.2.1, .inl (cI, 200, .inl (fun _ => -1))), (u.1.2.2, .inl (cI, 20, .inl (fun _ => -1))), (u.2.1.1, .inr (2, [.ref u.2.1.2, .int (nI 0)])), (u.2.1.2, .inl (cI, 400, .inl (fun _ => 0))), (u.2.2.1.1, .inr (0, [.ref u.2.2.1.2.1, .ref u.2.2.1.2.2.1, .ref u.2.2.1.2.2.2.1, .ref u.2.2.1.2.2.2.2, .int (nI 0)])), (u.2.2.1.2.1, .inl (cI, 400, .inl (fun _ => 0))), (u.2.2.1.2.2.1, .inl (cI, 400, .inl (fun _ => 0))), (u.2.2.1.2.2.2.1, .inl (cI, 400, .inl (fun _ => 0))), (u.2.2.1.2.2.2.2, .inl (cI, 400, .inl (fun _ => 0))), (u.2.2.2.1, .inr (0, [.ref u.2.2.2.2.1, .ref u.2.2.2.2.2.1, .ref u.2.2.2.2.2.2.1, .ref u.2.2.2.2.2.2.2, .int (nI 0)])), (u.2.2.2.2.1, .inl (cI, 400, .inl (fun _ => 0))), (u.2.2.2.2.2.1, .inl (cI, 400, .inl (fun _ => 0))), (u.2.2.2.2.2.2.1, .inl (cI, 400, .inl (fun _ => 0))), (u.2.2.2.2.2.2.2, .inl (cI, 400, .inl (fun _ => 0)))] zt.heap ∧ va_D (va_A [(h, .inr (3, [.null, .null, .null, .null, .int 0, .int 0, .int 0]))] sz) [(h, .inr (3, [.ref u.1.1, .ref u.2.1.1, .ref u.2.2.1.1, .ref u.2.2.2.1, .int (nI 0), .int (nI 0), .int (nI 0)])), (u.1.1, .inr (1, [.ref u.1.2.1, .ref u.1.2.2])), (u.1.2.1, .inl (cI, 200, .inl (fun _ => -1))), (u.1.2.2, .inl (cI, 20, .inl (fun _ => -1))), (u.2.1.1, .inr (2, [.ref u.2.1.2, .int (nI 0)])), (u.2.1.2, .inl (cI, 400, .inl (fun _ => 0))), (u.2.2.1.1, .inr (0, [.ref u.2.2.1.2.1, .ref u.2.2.1.2.2.1, .ref u.2.2.1.2.2.2.1, .ref u.2.2.1.2.2.2.2, .int (nI 0)])), (u.2.2.1.2.1, .inl (cI, 400, .inl (fun _ => 0))), (u.2.2.1.2.2.1, .inl (cI, 400, .inl (fun _ => 0))), (u.2.2.1.2.2.2.1, .inl (cI, 400, .inl (fun _ => 0))), (u.2.2.1.2.2.2.2, .inl (cI, 400, .inl (fun _ => 0))), (u.2.2.2.1, .inr (0, [.ref u.2.2.2.2.1, .ref u.2.2.2.2.2.1, .ref u.2.2.2.2.2.2.1, .ref u.2.2.2.2.2.2.2, .int (nI 0)])), (u.2.2.2.2.1, .inl (cI, 400, .inl (fun _ => 0))), (u.2.2.2.2.2.1, .inl (cI, 400, .inl (fun _ => 0))), (u.2.2.2.2.2.2.1, .inl (cI, 400, .inl (fun _ => 0))), (u.2.2.2.2.2.2.2, .inl (cI, 400, .inl (fun _ => 0)))]) (va_A [(h, .inr (3, [.null, .null, .null, .null, .int 0, .int 0, .int 0]))] sz)) 15 3834 (va_A [(h, .inr (3, [.null, .null, .null, .null, .int 0, .int 0, .int 0]))] sz) := by
  refine Met.ofW (cc := cX3_init) (maxL := 1) (ret := none) (by decide) rfl ?_
  intro p e s m args below meth c s₁ B hml hv
  obtain ⟨rfl, hsz, hP, hK, hD0⟩ := hv
  have hx := B.exec
  have hb := B.bytes
  have hr := B.returns
  have hts := atoms_spec (ws := (Cond.code yX3_init cX3_init 1 none :: es_T)) B.pre
  have hw : ∀ w ∈ es_T, w.before _ s = true := fun w h => hts w (List.mem_cons_of_mem _ h)
  have hown : s.vm.findClass RX3 = some m.cls := findClass_of_methodNamed B.named
  have hlocks := B.notSynchronized
  have hin : meth.name = "<init>" := (name_of_methodNamed B.named B.method).1
  have hRm : 3 ≤ (headSpec (Cond.code yX3_init cX3_init 1 none :: es_T) { frames := 3, cells := 15, slots := 3834, locals := 63 }).room.frames ∧ 63 ≤ (headSpec (Cond.code yX3_init cX3_init 1 none :: es_T) { frames := 3, cells := 15, slots := 3834, locals := 63 }).room.locals := ⟨Nat.le_refl _, Nat.le_refl _⟩
  have hRc : 15 ≤ (headSpec (Cond.code yX3_init cX3_init 1 none :: es_T) { frames := 3, cells := 15, slots := 3834, locals := 63 }).room.cells ∧ 3834 ≤ (headSpec (Cond.code yX3_init cX3_init 1 none :: es_T) { frames := 3, cells := 15, slots := 3834, locals := 63 }).room.slots := ⟨Nat.le_refl _, Nat.le_refl _⟩
  subst hsz
  have hD := hD0.self (sz := s.heap.size)
  generalize hAe : va_A [(h, .inr (3, [.null, .null, .null, .null, .int 0, .int 0, .int 0]))] s.heap.size = A at hD ⊢
  have hA : ∀ q : Nat, s.heap.size ≤ q → A q := fun q h => by rw [← hAe]; exact Or.inr h
  have hS : va_S A s.heap s.heap [] := va_S.rf
  have hl := lv_entry ([.ref h]) (n := 1) (Nat.le_of_ble_eq_true rfl)
  rw [lg_entry_eq]
  generalize (lg_sl ([.ref h]) ++ List.replicate (1 - (lg_sl ([.ref h])).length) Slot.unset).toArray = ls at hl ⊢
  have hl : lv_has ls 1 [(0, .ref h)] := hl
  refine lv_aload_n hx hb dX3_init_0 rfl (lv_at hl 0 rfl) ?_
  refine W.objInit hx hb hown (hw _ xw_196) (hw _ xw_92) (hw _ xw_93) rfl (by rw [hml]; exact hl.1) rfl dX3_init_1 (Nat.le_trans (Nat.le_of_ble_eq_true rfl) hRm.1) (Nat.le_trans (Nat.le_of_ble_eq_true rfl) hRm.2) ?_
  refine W.eq (g2 := F0 m 4 ls []) rfl ?_
  refine lv_aload_n hx hb dX3_init_4 rfl (lv_at hl 0 rfl) ?_
  refine va_new (ci := 1) (fs := [.null, .null]) (C := RX1) (T := TX1) (N := 2) hx hb hw iwX1 tyX1 tyX1_ok hown (hw _ xw_197) (hw _ xw_198) (hw _ xw_111) hK.1 hP hD hS hA rfl (fun j hj => by rcases (show j = 0 ∨ j = 1 by omega) with rfl | rfl <;> rfl) (Nat.le_trans (Nat.le_of_ble_eq_true rfl) hRc.1) (Nat.le_trans (Nat.le_of_ble_eq_true rfl) hRc.2) dX3_init_5 (fun qt H hP hD hS => ?_)
  have hP : va_P D vwCl [(h, .inr (3, [.null, .null, .null, .null, .int 0, .int 0, .int 0])), (qt, .inr (1, [.null, .null]))] H := hP
  have hD : va_D A [(h, .inr (3, [.null, .null, .null, .null, .int 0, .int 0, .int 0])), (qt, .inr (1, [.null, .null]))] := hD
  refine W.widen (k := 1) (n := 2) (Nat.le_of_ble_eq_true rfl) (Nat.le_of_ble_eq_true rfl) ?_
  refine lv_dup hx hb dX3_init_8 rfl ?_
  refine es_cv (wr := [(h, .inr (3, [.null, .null, .null, .null, .int 0, .int 0, .int 0]))]) (va_runI (As := []) (rest := [.ref qt, .ref h]) ⟨hx, hb, hml, hown, hw⟩ (c_X1_init l D cI H.size qt ) (cwI 0 hw (es_c xw_199) rfl rfl rfl (hw _ xw_111) (hw _ xw_200) (hw _ xw_201) rfl k0_X1_init ⟨Nat.le_trans (Nat.le_of_ble_eq_true rfl) hRm.1, Nat.le_trans (Nat.le_of_ble_eq_true rfl) hRm.2⟩) (es_WS hK (hP.sub (ws' := [(qt, .inr (1, [.null, .null]))]) [1] rfl) (hD.sub (ws' := [(qt, .inr (1, [.null, .null]))]) [1] (by decide) rfl)) rfl rfl hl.1 rfl (lv_room (Nat.le_of_ble_eq_true rfl)) dX3_init_9 ⟨(Nat.le_trans (Nat.le_of_ble_eq_true rfl) hRc.1), (Nat.le_trans (Nat.le_of_ble_eq_true rfl) hRc.2)⟩) hP hD hS hA [1] [0] rfl rfl (by decide) (by decide) (fun ut H locs hut hP hD hS => ?_)
  have hP : va_P D vwCl [(h, .inr (3, [.null, .null, .null, .null, .int 0, .int 0, .int 0])), (qt, .inr (1, [.ref ut.1, .ref ut.2])), (ut.1, .inl (cI, 200, .inl (fun _ => -1))), (ut.2, .inl (cI, 20, .inl (fun _ => -1)))] H := hP
  have hD : va_D A [(h, .inr (3, [.null, .null, .null, .null, .int 0, .int 0, .int 0])), (qt, .inr (1, [.ref ut.1, .ref ut.2])), (ut.1, .inl (cI, 200, .inl (fun _ => -1))), (ut.2, .inl (cI, 20, .inl (fun _ => -1)))] := hD
  refine W.widen (k := 3) (n := 222) (Nat.le_of_ble_eq_true rfl) (Nat.le_of_ble_eq_true rfl) ?_
  refine va_putF (D := D) (ci := 3) (v := .ref qt) (ty := (.object "EditedScanner$Table")) (C := RX3) (T := TX3) (N := 7) hx hb hw iwX3 tyX3 tyX3_ok nmX3 hown hK.1 hP hD hS 0 rfl rfl 0 (by decide) (hw _ xw_141) (fun _ h9 => h9) rfl hin rfl (by decide +kernel) rfl rfl (Nat.le_of_ble_eq_true rfl) dX3_init_12 (fun H locs hP hD hS => ?_)
  have hP : va_P D vwCl [(h, .inr (3, [.ref qt, .null, .null, .null, .int 0, .int 0, .int 0])), (qt, .inr (1, [.ref ut.1, .ref ut.2])), (ut.1, .inl (cI, 200, .inl (fun _ => -1))), (ut.2, .inl (cI, 20, .inl (fun _ => -1)))] H := hP
  have hD : va_D A [(h, .inr (3, [.ref qt, .null, .null, .null, .int 0, .int 0, .int 0])), (qt, .inr (1, [.ref ut.1, .ref ut.2])), (ut.1, .inl (cI, 200, .inl (fun _ => -1))), (ut.2, .inl (cI, 20, .inl (fun _ => -1)))] := hD
  refine lv_aload_n hx hb dX3_init_15 rfl (lv_at hl 0 rfl) ?_
  refine va_new (ci := 2) (fs := [.null, .int 0]) (C := RX2) (T := TX2) (N := 2) hx hb hw iwX2 tyX2 tyX2_ok hown (hw _ xw_202) (hw _ xw_203) (hw _ xw_125) hK.1 hP hD hS hA rfl (fun j hj => by rcases (show j = 0 ∨ j = 1 by omega) with rfl | rfl <;> rfl) (Nat.le_trans (Nat.le_of_ble_eq_true rfl) hRc.1) (Nat.le_trans (Nat.le_of_ble_eq_true rfl) hRc.2) dX3_init_16 (fun qx H hP hD hS => ?_)
  have hP : va_P D vwCl [(h, .inr (3, [.ref qt, .null, .null, .null, .int 0, .int 0, .int 0])), (qt, .inr (1, [.ref ut.1, .ref ut.2])), (ut.1, .inl (cI, 200, .inl (fun _ => -1))), (ut.2, .inl (cI, 20, .inl (fun _ => -1))), (qx, .inr (2, [.null, .int 0]))] H := hP
  have hD : va_D A [(h, .inr (3, [.ref qt, .null, .null, .null, .int 0, .int 0, .int 0])), (qt, .inr (1, [.ref ut.1, .ref ut.2])), (ut.1, .inl (cI, 200, .inl (fun _ => -1))), (ut.2, .inl (cI, 20, .inl (fun _ => -1))), (qx, .inr (2, [.null, .int 0]))] := hD
  refine W.widen (k := 4) (n := 224) (Nat.le_of_ble_eq_true rfl) (Nat.le_of_ble_eq_true rfl) ?_
  refine lv_dup hx hb dX3_init_19 rfl ?_
  refine es_cv (wr := [(h, .inr (3, [.ref qt, .null, .null, .null, .int 0, .int 0, .int 0])), (qt, .inr (1, [.ref ut.1, .ref ut.2])), (ut.1, .inl (cI, 200, .inl (fun _ => -1))), (ut.2, .inl (cI, 20, .inl (fun _ => -1)))]) (va_runIN (As := []) (rest := [.ref qx, .ref h]) ⟨hx, hb, hml, hown, hw⟩ (c_X2_init l D cI H.size qx ) ⟨va_cnB 0 hw (es_c xw_204) rfl rfl rfl hK.2.1 (hw _ xw_125) k0_X2_init ⟨Nat.le_trans (Nat.le_of_ble_eq_true rfl) hRm.1, Nat.le_trans (Nat.le_of_ble_eq_true rfl) hRm.2⟩, rfl, (hw _ xw_205)⟩ (es_WS hK (hP.sub (ws' := [(qx, .inr (2, [.null, .int 0]))]) [4] rfl) (hD.sub (ws' := [(qx, .inr (2, [.null, .int 0]))]) [4] (by decide) rfl)) rfl rfl hl.1 rfl (lv_room (Nat.le_of_ble_eq_true rfl)) dX3_init_20 ⟨(Nat.le_trans (Nat.le_of_ble_eq_true rfl) hRc.1), (Nat.le_trans (Nat.le_of_ble_eq_true rfl) hRc.2)⟩) hP hD hS hA [4] [0, 1, 2, 3] rfl rfl (by decide) (by decide) (fun ux H locs hux hP hD hS => ?_)
  have hP : va_P D vwCl [(h, .inr (3, [.ref qt, .null, .null, .null, .int 0, .int 0, .int 0])), (qt, .inr (1, [.ref ut.1, .ref ut.2])), (ut.1, .inl (cI, 200, .inl (fun _ => -1))), (ut.2, .inl (cI, 20, .inl (fun _ => -1))), (qx, .inr (2, [.ref ux, .int (nI 0)])), (ux, .inl (cI, 400, .inl (fun _ => 0)))] H := hP
  have hD : va_D A [(h, .inr (3, [.ref qt, .null, .null, .null, .int 0, .int 0, .int 0])), (qt, .inr (1, [.ref ut.1, .ref ut.2])), (ut.1, .inl (cI, 200, .inl (fun _ => -1))), (ut.2, .inl (cI, 20, .inl (fun _ => -1))), (qx, .inr (2, [.ref ux, .int (nI 0)])), (ux, .inl (cI, 400, .inl (fun _ => 0)))] := hD
  refine W.widen (k := 5) (n := 624) (Nat.le_of_ble_eq_true rfl) (Nat.le_of_ble_eq_true rfl) ?_
  refine va_putF (D := D) (ci := 3) (v := .ref qx) (ty := (.object "EditedScanner$Text")) (C := RX3) (T := TX3) (N := 7) hx hb hw iwX3 tyX3 tyX3_ok nmX3 hown hK.1 hP hD hS 0 rfl rfl 1 (by decide) (hw _ xw_136) (fun _ h9 => h9) rfl hin rfl (by decide +kernel) rfl rfl (Nat.le_of_ble_eq_true rfl) dX3_init_23 (fun H locs hP hD hS => ?_)
  have hP : va_P D vwCl [(h, .inr (3, [.ref qt, .ref qx, .null, .null, .int 0, .int 0, .int 0])), (qt, .inr (1, [.ref ut.1, .ref ut.2])), (ut.1, .inl (cI, 200, .inl (fun _ => -1))), (ut.2, .inl (cI, 20, .inl (fun _ => -1))), (qx, .inr (2, [.ref ux, .int (nI 0)])), (ux, .inl (cI, 400, .inl (fun _ => 0)))] H := hP
  have hD : va_D A [(h, .inr (3, [.ref qt, .ref qx, .null, .null, .int 0, .int 0, .int 0])), (qt, .inr (1, [.ref ut.1, .ref ut.2])), (ut.1, .inl (cI, 200, .inl (fun _ => -1))), (ut.2, .inl (cI, 20, .inl (fun _ => -1))), (qx, .inr (2, [.ref ux, .int (nI 0)])), (ux, .inl (cI, 400, .inl (fun _ => 0)))] := hD
  refine lv_aload_n hx hb dX3_init_26 rfl (lv_at hl 0 rfl) ?_
  refine va_new (ci := 0) (fs := [.null, .null, .null, .null, .int 0]) (C := RX0) (T := TX0) (N := 5) hx hb hw iwX0 tyX0 tyX0_ok hown (hw _ xw_206) (hw _ xw_207) (hw _ xw_83) hK.1 hP hD hS hA rfl (fun j hj => by rcases (show j = 0 ∨ j = 1 ∨ j = 2 ∨ j = 3 ∨ j = 4 by omega) with rfl | rfl | rfl | rfl | rfl <;> rfl) (Nat.le_trans (Nat.le_of_ble_eq_true rfl) hRc.1) (Nat.le_trans (Nat.le_of_ble_eq_true rfl) hRc.2) dX3_init_27 (fun qf H hP hD hS => ?_)
  have hP : va_P D vwCl [(h, .inr (3, [.ref qt, .ref qx, .null, .null, .int 0, .int 0, .int 0])), (qt, .inr (1, [.ref ut.1, .ref ut.2])), (ut.1, .inl (cI, 200, .inl (fun _ => -1))), (ut.2, .inl (cI, 20, .inl (fun _ => -1))), (qx, .inr (2, [.ref ux, .int (nI 0)])), (ux, .inl (cI, 400, .inl (fun _ => 0))), (qf, .inr (0, [.null, .null, .null, .null, .int 0]))] H := hP
  have hD : va_D A [(h, .inr (3, [.ref qt, .ref qx, .null, .null, .int 0, .int 0, .int 0])), (qt, .inr (1, [.ref ut.1, .ref ut.2])), (ut.1, .inl (cI, 200, .inl (fun _ => -1))), (ut.2, .inl (cI, 20, .inl (fun _ => -1))), (qx, .inr (2, [.ref ux, .int (nI 0)])), (ux, .inl (cI, 400, .inl (fun _ => 0))), (qf, .inr (0, [.null, .null, .null, .null, .int 0]))] := hD
  refine W.widen (k := 6) (n := 629) (Nat.le_of_ble_eq_true rfl) (Nat.le_of_ble_eq_true rfl) ?_
  refine lv_dup hx hb dX3_init_30 rfl ?_
  refine es_cv (wr := [(h, .inr (3, [.ref qt, .ref qx, .null, .null, .int 0, .int 0, .int 0])), (qt, .inr (1, [.ref ut.1, .ref ut.2])), (ut.1, .inl (cI, 200, .inl (fun _ => -1))), (ut.2, .inl (cI, 20, .inl (fun _ => -1))), (qx, .inr (2, [.ref ux, .int (nI 0)])), (ux, .inl (cI, 400, .inl (fun _ => 0)))]) (va_runIN (As := []) (rest := [.ref qf, .ref h]) ⟨hx, hb, hml, hown, hw⟩ (c_X0_init l D cI H.size qf ) ⟨va_cnB 0 hw (es_c xw_208) rfl rfl rfl hK.2.2.1 (hw _ xw_83) k0_X0_init ⟨Nat.le_trans (Nat.le_of_ble_eq_true rfl) hRm.1, Nat.le_trans (Nat.le_of_ble_eq_true rfl) hRm.2⟩, rfl, (hw _ xw_209)⟩ (es_WS hK (hP.sub (ws' := [(qf, .inr (0, [.null, .null, .null, .null, .int 0]))]) [6] rfl) (hD.sub (ws' := [(qf, .inr (0, [.null, .null, .null, .null, .int 0]))]) [6] (by decide) rfl)) rfl rfl hl.1 rfl (lv_room (Nat.le_of_ble_eq_true rfl)) dX3_init_31 ⟨(Nat.le_trans (Nat.le_of_ble_eq_true rfl) hRc.1), (Nat.le_trans (Nat.le_of_ble_eq_true rfl) hRc.2)⟩) hP hD hS hA [6] [0, 1, 2, 3, 4, 5] rfl rfl (by decide) (by decide) (fun uf H locs huf hP hD hS => ?_)
  have hP : va_P D vwCl [(h, .inr (3, [.ref qt, .ref qx, .null, .null, .int 0, .int 0, .int 0])), (qt, .inr (1, [.ref ut.1, .ref ut.2])), (ut.1, .inl (cI, 200, .inl (fun _ => -1))), (ut.2, .inl (cI, 20, .inl (fun _ => -1))), (qx, .inr (2, [.ref ux, .int (nI 0)])), (ux, .inl (cI, 400, .inl (fun _ => 0))), (qf, .inr (0, [.ref uf.1, .ref uf.2.1, .ref uf.2.2.1, .ref uf.2.2.2, .int (nI 0)])), (uf.1, .inl (cI, 400, .inl (fun _ => 0))), (uf.2.1, .inl (cI, 400, .inl (fun _ => 0))), (uf.2.2.1, .inl (cI, 400, .inl (fun _ => 0))), (uf.2.2.2, .inl (cI, 400, .inl (fun _ => 0)))] H := hP
  have hD : va_D A [(h, .inr (3, [.ref qt, .ref qx, .null, .null, .int 0, .int 0, .int 0])), (qt, .inr (1, [.ref ut.1, .ref ut.2])), (ut.1, .inl (cI, 200, .inl (fun _ => -1))), (ut.2, .inl (cI, 20, .inl (fun _ => -1))), (qx, .inr (2, [.ref ux, .int (nI 0)])), (ux, .inl (cI, 400, .inl (fun _ => 0))), (qf, .inr (0, [.ref uf.1, .ref uf.2.1, .ref uf.2.2.1, .ref uf.2.2.2, .int (nI 0)])), (uf.1, .inl (cI, 400, .inl (fun _ => 0))), (uf.2.1, .inl (cI, 400, .inl (fun _ => 0))), (uf.2.2.1, .inl (cI, 400, .inl (fun _ => 0))), (uf.2.2.2, .inl (cI, 400, .inl (fun _ => 0)))] := hD
  refine W.widen (k := 10) (n := 2229) (Nat.le_of_ble_eq_true rfl) (Nat.le_of_ble_eq_true rfl) ?_
  refine va_put (D := D) (ci := 3) (v := .ref qf) (ty := (.object "EditedScanner$Findings")) (C := RX3) (T := TX3) (N := 7) hx hb hw iwX3 tyX3 tyX3_ok nmX3 hown hK.1 hP hD hS 0 rfl rfl 2 (by decide) (hw _ xw_146) (fun _ h9 => h9) rfl (by decide +kernel) rfl rfl (Nat.le_of_ble_eq_true rfl) dX3_init_34 (fun H locs hP hD hS => ?_)
  have hP : va_P D vwCl [(h, .inr (3, [.ref qt, .ref qx, .ref qf, .null, .int 0, .int 0, .int 0])), (qt, .inr (1, [.ref ut.1, .ref ut.2])), (ut.1, .inl (cI, 200, .inl (fun _ => -1))), (ut.2, .inl (cI, 20, .inl (fun _ => -1))), (qx, .inr (2, [.ref ux, .int (nI 0)])), (ux, .inl (cI, 400, .inl (fun _ => 0))), (qf, .inr (0, [.ref uf.1, .ref uf.2.1, .ref uf.2.2.1, .ref uf.2.2.2, .int (nI 0)])), (uf.1, .inl (cI, 400, .inl (fun _ => 0))), (uf.2.1, .inl (cI, 400, .inl (fun _ => 0))), (uf.2.2.1, .inl (cI, 400, .inl (fun _ => 0))), (uf.2.2.2, .inl (cI, 400, .inl (fun _ => 0)))] H := hP
  have hD : va_D A [(h, .inr (3, [.ref qt, .ref qx, .ref qf, .null, .int 0, .int 0, .int 0])), (qt, .inr (1, [.ref ut.1, .ref ut.2])), (ut.1, .inl (cI, 200, .inl (fun _ => -1))), (ut.2, .inl (cI, 20, .inl (fun _ => -1))), (qx, .inr (2, [.ref ux, .int (nI 0)])), (ux, .inl (cI, 400, .inl (fun _ => 0))), (qf, .inr (0, [.ref uf.1, .ref uf.2.1, .ref uf.2.2.1, .ref uf.2.2.2, .int (nI 0)])), (uf.1, .inl (cI, 400, .inl (fun _ => 0))), (uf.2.1, .inl (cI, 400, .inl (fun _ => 0))), (uf.2.2.1, .inl (cI, 400, .inl (fun _ => 0))), (uf.2.2.2, .inl (cI, 400, .inl (fun _ => 0)))] := hD
  refine lv_aload_n hx hb dX3_init_37 rfl (lv_at hl 0 rfl) ?_
  refine va_new (ci := 0) (fs := [.null, .null, .null, .null, .int 0]) (C := RX0) (T := TX0) (N := 5) hx hb hw iwX0 tyX0 tyX0_ok hown (hw _ xw_206) (hw _ xw_207) (hw _ xw_83) hK.1 hP hD hS hA rfl (fun j hj => by rcases (show j = 0 ∨ j = 1 ∨ j = 2 ∨ j = 3 ∨ j = 4 by omega) with rfl | rfl | rfl | rfl | rfl <;> rfl) (Nat.le_trans (Nat.le_of_ble_eq_true rfl) hRc.1) (Nat.le_trans (Nat.le_of_ble_eq_true rfl) hRc.2) dX3_init_38 (fun qg H hP hD hS => ?_)
  have hP : va_P D vwCl [(h, .inr (3, [.ref qt, .ref qx, .ref qf, .null, .int 0, .int 0, .int 0])), (qt, .inr (1, [.ref ut.1, .ref ut.2])), (ut.1, .inl (cI, 200, .inl (fun _ => -1))), (ut.2, .inl (cI, 20, .inl (fun _ => -1))), (qx, .inr (2, [.ref ux, .int (nI 0)])), (ux, .inl (cI, 400, .inl (fun _ => 0))), (qf, .inr (0, [.ref uf.1, .ref uf.2.1, .ref uf.2.2.1, .ref uf.2.2.2, .int (nI 0)])), (uf.1, .inl (cI, 400, .inl (fun _ => 0))), (uf.2.1, .inl (cI, 400, .inl (fun _ => 0))), (uf.2.2.1, .inl (cI, 400, .inl (fun _ => 0))), (uf.2.2.2, .inl (cI, 400, .inl (fun _ => 0))), (qg, .inr (0, [.null, .null, .null, .null, .int 0]))] H := hP
  have hD : va_D A [(h, .inr (3, [.ref qt, .ref qx, .ref qf, .null, .int 0, .int 0, .int 0])), (qt, .inr (1, [.ref ut.1, .ref ut.2])), (ut.1, .inl (cI, 200, .inl (fun _ => -1))), (ut.2, .inl (cI, 20, .inl (fun _ => -1))), (qx, .inr (2, [.ref ux, .int (nI 0)])), (ux, .inl (cI, 400, .inl (fun _ => 0))), (qf, .inr (0, [.ref uf.1, .ref uf.2.1, .ref uf.2.2.1, .ref uf.2.2.2, .int (nI 0)])), (uf.1, .inl (cI, 400, .inl (fun _ => 0))), (uf.2.1, .inl (cI, 400, .inl (fun _ => 0))), (uf.2.2.1, .inl (cI, 400, .inl (fun _ => 0))), (uf.2.2.2, .inl (cI, 400, .inl (fun _ => 0))), (qg, .inr (0, [.null, .null, .null, .null, .int 0]))] := hD
  refine W.widen (k := 11) (n := 2234) (Nat.le_of_ble_eq_true rfl) (Nat.le_of_ble_eq_true rfl) ?_
  refine lv_dup hx hb dX3_init_41 rfl ?_
  refine es_cv (wr := [(h, .inr (3, [.ref qt, .ref qx, .ref qf, .null, .int 0, .int 0, .int 0])), (qt, .inr (1, [.ref ut.1, .ref ut.2])), (ut.1, .inl (cI, 200, .inl (fun _ => -1))), (ut.2, .inl (cI, 20, .inl (fun _ => -1))), (qx, .inr (2, [.ref ux, .int (nI 0)])), (ux, .inl (cI, 400, .inl (fun _ => 0))), (qf, .inr (0, [.ref uf.1, .ref uf.2.1, .ref uf.2.2.1, .ref uf.2.2.2, .int (nI 0)])), (uf.1, .inl (cI, 400, .inl (fun _ => 0))), (uf.2.1, .inl (cI, 400, .inl (fun _ => 0))), (uf.2.2.1, .inl (cI, 400, .inl (fun _ => 0))), (uf.2.2.2, .inl (cI, 400, .inl (fun _ => 0)))]) (va_runIN (As := []) (rest := [.ref qg, .ref h]) ⟨hx, hb, hml, hown, hw⟩ (c_X0_init l D cI H.size qg ) ⟨va_cnB 0 hw (es_c xw_208) rfl rfl rfl hK.2.2.1 (hw _ xw_83) k0_X0_init ⟨Nat.le_trans (Nat.le_of_ble_eq_true rfl) hRm.1, Nat.le_trans (Nat.le_of_ble_eq_true rfl) hRm.2⟩, rfl, (hw _ xw_209)⟩ (es_WS hK (hP.sub (ws' := [(qg, .inr (0, [.null, .null, .null, .null, .int 0]))]) [11] rfl) (hD.sub (ws' := [(qg, .inr (0, [.null, .null, .null, .null, .int 0]))]) [11] (by decide) rfl)) rfl rfl hl.1 rfl (lv_room (Nat.le_of_ble_eq_true rfl)) dX3_init_42 ⟨(Nat.le_trans (Nat.le_of_ble_eq_true rfl) hRc.1), (Nat.le_trans (Nat.le_of_ble_eq_true rfl) hRc.2)⟩) hP hD hS hA [11] [0, 1, 2, 3, 4, 5, 6, 7, 8, 9, 10] rfl rfl (by decide) (by decide) (fun ug H locs hug hP hD hS => ?_)
  have hP : va_P D vwCl [(h, .inr (3, [.ref qt, .ref qx, .ref qf, .null, .int 0, .int 0, .int 0])), (qt, .inr (1, [.ref ut.1, .ref ut.2])), (ut.1, .inl (cI, 200, .inl (fun _ => -1))), (ut.2, .inl (cI, 20, .inl (fun _ => -1))), (qx, .inr (2, [.ref ux, .int (nI 0)])), (ux, .inl (cI, 400, .inl (fun _ => 0))), (qf, .inr (0, [.ref uf.1, .ref uf.2.1, .ref uf.2.2.1, .ref uf.2.2.2, .int (nI 0)])), (uf.1, .inl (cI, 400, .inl (fun _ => 0))), (uf.2.1, .inl (cI, 400, .inl (fun _ => 0))), (uf.2.2.1, .inl (cI, 400, .inl (fun _ => 0))), (uf.2.2.2, .inl (cI, 400, .inl (fun _ => 0))), (qg, .inr (0, [.ref ug.1, .ref ug.2.1, .ref ug.2.2.1, .ref ug.2.2.2, .int (nI 0)])), (ug.1, .inl (cI, 400, .inl (fun _ => 0))), (ug.2.1, .inl (cI, 400, .inl (fun _ => 0))), (ug.2.2.1, .inl (cI, 400, .inl (fun _ => 0))), (ug.2.2.2, .inl (cI, 400, .inl (fun _ => 0)))] H := hP
  have hD : va_D A [(h, .inr (3, [.ref qt, .ref qx, .ref qf, .null, .int 0, .int 0, .int 0])), (qt, .inr (1, [.ref ut.1, .ref ut.2])), (ut.1, .inl (cI, 200, .inl (fun _ => -1))), (ut.2, .inl (cI, 20, .inl (fun _ => -1))), (qx, .inr (2, [.ref ux, .int (nI 0)])), (ux, .inl (cI, 400, .inl (fun _ => 0))), (qf, .inr (0, [.ref uf.1, .ref uf.2.1, .ref uf.2.2.1, .ref uf.2.2.2, .int (nI 0)])), (uf.1, .inl (cI, 400, .inl (fun _ => 0))), (uf.2.1, .inl (cI, 400, .inl (fun _ => 0))), (uf.2.2.1, .inl (cI, 400, .inl (fun _ => 0))), (uf.2.2.2, .inl (cI, 400, .inl (fun _ => 0))), (qg, .inr (0, [.ref ug.1, .ref ug.2.1, .ref ug.2.2.1, .ref ug.2.2.2, .int (nI 0)])), (ug.1, .inl (cI, 400, .inl (fun _ => 0))), (ug.2.1, .inl (cI, 400, .inl (fun _ => 0))), (ug.2.2.1, .inl (cI, 400, .inl (fun _ => 0))), (ug.2.2.2, .inl (cI, 400, .inl (fun _ => 0)))] := hD
  refine W.widen (k := 15) (n := 3834) (Nat.le_of_ble_eq_true rfl) (Nat.le_of_ble_eq_true rfl) ?_
  refine va_put (D := D) (ci := 3) (v := .ref qg) (ty := (.object "EditedScanner$Findings")) (C := RX3) (T := TX3) (N := 7) hx hb hw iwX3 tyX3 tyX3_ok nmX3 hown hK.1 hP hD hS 0 rfl rfl 3 (by decide) (hw _ xw_210) (fun _ h9 => h9) rfl (by decide +kernel) rfl rfl (Nat.le_of_ble_eq_true rfl) dX3_init_45 (fun H locs hP hD hS => ?_)
  have hP : va_P D vwCl [(h, .inr (3, [.ref qt, .ref qx, .ref qf, .ref qg, .int 0, .int 0, .int 0])), (qt, .inr (1, [.ref ut.1, .ref ut.2])), (ut.1, .inl (cI, 200, .inl (fun _ => -1))), (ut.2, .inl (cI, 20, .inl (fun _ => -1))), (qx, .inr (2, [.ref ux, .int (nI 0)])), (ux, .inl (cI, 400, .inl (fun _ => 0))), (qf, .inr (0, [.ref uf.1, .ref uf.2.1, .ref uf.2.2.1, .ref uf.2.2.2, .int (nI 0)])), (uf.1, .inl (cI, 400, .inl (fun _ => 0))), (uf.2.1, .inl (cI, 400, .inl (fun _ => 0))), (uf.2.2.1, .inl (cI, 400, .inl (fun _ => 0))), (uf.2.2.2, .inl (cI, 400, .inl (fun _ => 0))), (qg, .inr (0, [.ref ug.1, .ref ug.2.1, .ref ug.2.2.1, .ref ug.2.2.2, .int (nI 0)])), (ug.1, .inl (cI, 400, .inl (fun _ => 0))), (ug.2.1, .inl (cI, 400, .inl (fun _ => 0))), (ug.2.2.1, .inl (cI, 400, .inl (fun _ => 0))), (ug.2.2.2, .inl (cI, 400, .inl (fun _ => 0)))] H := hP
  have hD : va_D A [(h, .inr (3, [.ref qt, .ref qx, .ref qf, .ref qg, .int 0, .int 0, .int 0])), (qt, .inr (1, [.ref ut.1, .ref ut.2])), (ut.1, .inl (cI, 200, .inl (fun _ => -1))), (ut.2, .inl (cI, 20, .inl (fun _ => -1))), (qx, .inr (2, [.ref ux, .int (nI 0)])), (ux, .inl (cI, 400, .inl (fun _ => 0))), (qf, .inr (0, [.ref uf.1, .ref uf.2.1, .ref uf.2.2.1, .ref uf.2.2.2, .int (nI 0)])), (uf.1, .inl (cI, 400, .inl (fun _ => 0))), (uf.2.1, .inl (cI, 400, .inl (fun _ => 0))), (uf.2.2.1, .inl (cI, 400, .inl (fun _ => 0))), (uf.2.2.2, .inl (cI, 400, .inl (fun _ => 0))), (qg, .inr (0, [.ref ug.1, .ref ug.2.1, .ref ug.2.2.1, .ref ug.2.2.2, .int (nI 0)])), (ug.1, .inl (cI, 400, .inl (fun _ => 0))), (ug.2.1, .inl (cI, 400, .inl (fun _ => 0))), (ug.2.2.1, .inl (cI, 400, .inl (fun _ => 0))), (ug.2.2.2, .inl (cI, 400, .inl (fun _ => 0)))] := hD
  refine W.widen (k := 15) (n := 3834) (Nat.le_of_ble_eq_true rfl) (Nat.le_of_ble_eq_true rfl) ?_
  exact W.vret hx hb hr (fun zt ht hW => ⟨⟨((qt, ut.1, ut.2), (qx, ux), (qf, uf.1, uf.2.1, uf.2.2.1, uf.2.2.2), (qg, ug.1, ug.2.1, ug.2.2.1, ug.2.2.2)), rfl, trivial, ⟨by rw [ht]; exact hP.sub [0, 1, 2, 3, 4, 5, 6, 7, 8, 9, 10, 11, 12, 13, 14, 15] rfl, hD.sub [0, 1, 2, 3, 4, 5, 6, 7, 8, 9, 10, 11, 12, 13, 14, 15] (by decide) rfl⟩⟩, hS.F ht⟩) hS.2.2 dX3_init_48
