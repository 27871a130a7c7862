theorem es_zok {z : Int32} : (z = -1 ∨ (0 ≤ z ∧ z < nI 20)) ↔ (¬ z < -1 ∧ z < nI 20) := by
  simp only [Int32.lt_iff_toInt_lt, Int32.le_iff_toInt_le, ← Int32.toInt_inj, es_n0, es_nm, es_k20]
  omega
theorem es_y99 {y : Int32} : y ≤ nI 99 ↔ y < nI 100 := by
  simp only [Int32.lt_iff_toInt_lt, Int32.le_iff_toInt_le, es_k99, es_k100]
  omega
theorem es_ta_y {P : Nat → Prop} {i : Nat} {fd : Int32} (_h : (fd = -1 ∧ ∀ j, j < i → ¬ P j) ∨ (∃ w : Nat, w < i ∧ fd = nI w ∧ P w ∧ ∀ j, w < j → j < i → ¬ P j)) (hp : P i) : (nI i = -1 ∧ ∀ j, j < i + 1 → ¬ P j) ∨ (∃ w : Nat, w < i + 1 ∧ nI i = nI w ∧ P w ∧ ∀ j, w < j → j < i + 1 → ¬ P j) := Or.inr ⟨i, Nat.lt_succ_self i, rfl, hp, fun j h1 h2 => by omega⟩
theorem es_ta_n {P : Nat → Prop} {i : Nat} {fd : Int32} (h : (fd = -1 ∧ ∀ j, j < i → ¬ P j) ∨ (∃ w : Nat, w < i ∧ fd = nI w ∧ P w ∧ ∀ j, w < j → j < i → ¬ P j)) (hp : ¬ P i) : (fd = -1 ∧ ∀ j, j < i + 1 → ¬ P j) ∨ (∃ w : Nat, w < i + 1 ∧ fd = nI w ∧ P w ∧ ∀ j, w < j → j < i + 1 → ¬ P j) := by
  rcases h with ⟨h1, h2⟩ | ⟨w, h1, h2, h3, h4⟩
  · exact Or.inl ⟨h1, lt_s h2 hp⟩
  · refine Or.inr ⟨w, by omega, h2, h3, fun j h5 h6 => ?_⟩
    by_cases e : j = i
    · rw [e]; exact hp
    · exact h4 j h5 (by omega)
def es_cm (tn n : Nat) (fl fk : Int32) (rd sc ed : Nat) (x : Int32) : Int32 := if x = 0 then nI tn else if x = 1 then nI n else if x = 2 then fl else if x = 3 then fk else if x = 4 then nI rd else if x = 5 then nI sc else if x = 6 then nI ed else -1

set_option maxHeartbeats 1000000 in
set_option maxRecDepth 100000 in
theorem lp_fgA {p : Program} {l : Launch} {e : Env} {R : Room} {s : State} {m : MethodId} {args : Array Value} {below : List Frame} {meth : Method} {c : Code} {Q : State → Prop} {A : Nat → Prop} {H0 : Heap} (D : va_G) (cI : ClassId) (mo : Nat) (ma : Nat) (mk : Nat) (mtx : Nat) (m0 : Nat) (m1 : Nat) (m2 : Nat) (m3 : Nat) (mb : Nat) (n : Nat) (tn : Nat) (fl : Int32) (fk : Int32) (ot : Int32) (of_ : Int32) (os_ : Int32) (rd : Nat) (sc : Nat) (ed : Nat) (ts : Int32) (tkd : Int32) (tl : Int32) (ki : Nat → Int32) (hx : p.tables.exec = Jvm.exec) (hb : c.code = cX4_forget) (hml : c.maxLocals = 2) (hown : s.vm.findClass RX4 = some m.cls) (hw : ∀ w ∈ es_T, w.before args s = true) (hK : es_K D cI s) (hRm : 0 ≤ R.frames ∧ 0 ≤ R.locals) (hA : ∀ q : Nat, H0.size ≤ q → A q)  (hex : ∀ (g : Nat → Int32), (∀ j, j < 200 → g j = -1) → ∀ (H : Heap) (locs : List Loc), va_P D vwCl [(mo, .inr (4, [.ref ma, .ref mk, .ref mtx, .int (nI n), .int (nI tn), .ref m0, .ref m1, .ref m2, .ref m3, .int fl, .int fk, .int ot, .ref mb, .int of_, .int os_, .int (nI rd), .int (nI sc), .int (nI ed), .int ts, .int tkd, .int tl])), (ma, .inl (cI, 200, .inl g)), (mk, .inl (cI, 20, .inl ki))] H → va_D A [(mo, .inr (4, [.ref ma, .ref mk, .ref mtx, .int (nI n), .int (nI tn), .ref m0, .ref m1, .ref m2, .ref m3, .int fl, .int fk, .int ot, .ref mb, .int of_, .int os_, .int (nI rd), .int (nI sc), .int (nI ed), .int ts, .int tkd, .int tl])), (ma, .inl (cI, 200, .inl g)), (mk, .inl (cI, 20, .inl ki))] → va_S A H0 H locs → ∀ (ls : Array Slot), lv_has ls 2 [(0, .ref mo)] →  W p l e R s m args below meth c H locs 0 0 Q (F0 m 22 ls [])) : ∀ (N : Nat) (i : Nat) (g : Nat → Int32), (i ≤ 200) → (∀ j, j < i → g j = -1) → (200 - i) < N → ∀ (H : Heap) (locs : List Loc), va_P D vwCl [(mo, .inr (4, [.ref ma, .ref mk, .ref mtx, .int (nI n), .int (nI tn), .ref m0, .ref m1, .ref m2, .ref m3, .int fl, .int fk, .int ot, .ref mb, .int of_, .int os_, .int (nI rd), .int (nI sc), .int (nI ed), .int ts, .int tkd, .int tl])), (ma, .inl (cI, 200, .inl g)), (mk, .inl (cI, 20, .inl ki))] H → va_D A [(mo, .inr (4, [.ref ma, .ref mk, .ref mtx, .int (nI n), .int (nI tn), .ref m0, .ref m1, .ref m2, .ref m3, .int fl, .int fk, .int ot, .ref mb, .int of_, .int os_, .int (nI rd), .int (nI sc), .int (nI ed), .int ts, .int tkd, .int tl])), (ma, .inl (cI, 200, .inl g)), (mk, .inl (cI, 20, .inl ki))] → va_S A H0 H locs → ∀ (ls : Array Slot), lv_has ls 2 [(0, .ref mo), (1, .int (nI i))] →  W p l e R s m args below meth c H locs 0 0 Q (F0 m 2 ls []) := by
  intro N
  induction N with
  | zero =>
    intro i g hi hg hN
    exact absurd hN (Nat.not_lt_zero _)
  | succ N ih =>
    intro i g hi hg hN H locs hP hD hS ls hl
    refine lv_iload_n hx hb dX4_forget_2 rfl (lv_at hl 1 rfl) ?_
    refine lv_sipush (v := nI 200) hx hb dX4_forget_3 (by decide) ?_
    refine lv_icmp_ge (tgt := 22) hx hb dX4_forget_6 (by decide) (fun c_6 => ?_) (fun c_6 => ?_)
    ·
      have c_6 := (nI_leI (by omega) (by omega)).mp c_6
      exact hex g (fun j h => hg j (by omega))  H locs (hP.sub [0, 1, 2] rfl) (hD.sub [0, 1, 2] (by decide) rfl) hS ls (lv_sub hl [0] rfl)
    ·
      have c_6 := (mt (nI_leI (by omega) (by omega)).mpr c_6)
      refine lv_aload_n hx hb dX4_forget_9 rfl (lv_at hl 0 rfl) ?_
      refine va_get (D := D) (ci := 4) (v := .ref ma) (C := RX4) (T := TX4) (N := 21) hx hb hw iwX4 hown hK.1 hP 0 rfl rfl 0 (by decide) (hw _ xw_261) (fun _ h9 => h9) rfl dX4_forget_10 ?_
      refine lv_iload_n hx hb dX4_forget_13 rfl (lv_at hl 1 rfl) ?_
      refine lv_iconst (v := (-1)) hx hb dX4_forget_14 (by decide) ?_
      refine es_iast hx hb hK.1 hP hD hS 1 0 rfl rfl (by omega) (Nat.le_of_ble_eq_true rfl) dX4_forget_15 (fun H locs hP hD hS => ?_)
      have hP : va_P D vwCl [(mo, .inr (4, [.ref ma, .ref mk, .ref mtx, .int (nI n), .int (nI tn), .ref m0, .ref m1, .ref m2, .ref m3, .int fl, .int fk, .int ot, .ref mb, .int of_, .int os_, .int (nI rd), .int (nI sc), .int (nI ed), .int ts, .int tkd, .int tl])), (ma, .inl (cI, 200, .inl (upd g i (-1)))), (mk, .inl (cI, 20, .inl ki))] H := hP
      have hD : va_D A [(mo, .inr (4, [.ref ma, .ref mk, .ref mtx, .int (nI n), .int (nI tn), .ref m0, .ref m1, .ref m2, .ref m3, .int fl, .int fk, .int ot, .ref mb, .int of_, .int os_, .int (nI rd), .int (nI sc), .int (nI ed), .int ts, .int tkd, .int tl])), (ma, .inl (cI, 200, .inl (upd g i (-1)))), (mk, .inl (cI, 20, .inl ki))] := hD
      refine lv_iinc (v := nI (i + 1)) (lv' := [(1, .int (nI (i + 1))), (0, .ref mo)]) hx hb dX4_forget_16 hl (k := 1) rfl (nI_1 _) (by decide) rfl (fun ls hl => ?_)
      refine lv_goto (tgt := 2) hx hb dX4_forget_19 (by decide) ?_
      exact ih (i + 1) (upd g i (-1)) (by first | assumption | omega) (es_ext hg) (by omega) H locs (hP.sub [0, 1, 2] rfl) (hD.sub [0, 1, 2] (by decide) rfl) hS ls (lv_sub hl [1, 0] rfl)
set_option maxHeartbeats 1000000 in
set_option maxRecDepth 100000 in
theorem lp_fgB {p : Program} {l : Launch} {e : Env} {R : Room} {s : State} {m : MethodId} {args : Array Value} {below : List Frame} {meth : Method} {c : Code} {Q : State → Prop} {A : Nat → Prop} {H0 : Heap} (D : va_G) (cI : ClassId) (mo : Nat) (ma : Nat) (mk : Nat) (mtx : Nat) (m0 : Nat) (m1 : Nat) (m2 : Nat) (m3 : Nat) (mb : Nat) (n : Nat) (tn : Nat) (fl : Int32) (fk : Int32) (ot : Int32) (of_ : Int32) (os_ : Int32) (rd : Nat) (sc : Nat) (ed : Nat) (ts : Int32) (tkd : Int32) (tl : Int32) (ar : Nat → Int32) (hx : p.tables.exec = Jvm.exec) (hb : c.code = cX4_forget) (hml : c.maxLocals = 2) (hown : s.vm.findClass RX4 = some m.cls) (hw : ∀ w ∈ es_T, w.before args s = true) (hK : es_K D cI s) (hRm : 0 ≤ R.frames ∧ 0 ≤ R.locals) (hA : ∀ q : Nat, H0.size ≤ q → A q)  (hex : ∀ (g : Nat → Int32), (∀ j, j < 20 → g j = -1) → ∀ (H : Heap) (locs : List Loc), va_P D vwCl [(mo, .inr (4, [.ref ma, .ref mk, .ref mtx, .int (nI n), .int (nI tn), .ref m0, .ref m1, .ref m2, .ref m3, .int fl, .int fk, .int ot, .ref mb, .int of_, .int os_, .int (nI rd), .int (nI sc), .int (nI ed), .int ts, .int tkd, .int tl])), (ma, .inl (cI, 200, .inl ar)), (mk, .inl (cI, 20, .inl g))] H → va_D A [(mo, .inr (4, [.ref ma, .ref mk, .ref mtx, .int (nI n), .int (nI tn), .ref m0, .ref m1, .ref m2, .ref m3, .int fl, .int fk, .int ot, .ref mb, .int of_, .int os_, .int (nI rd), .int (nI sc), .int (nI ed), .int ts, .int tkd, .int tl])), (ma, .inl (cI, 200, .inl ar)), (mk, .inl (cI, 20, .inl g))] → va_S A H0 H locs → ∀ (ls : Array Slot), lv_has ls 2 [(0, .ref mo)] →  W p l e R s m args below meth c H locs 0 0 Q (F0 m 43 ls [])) : ∀ (N : Nat) (i : Nat) (g : Nat → Int32), (i ≤ 20) → (∀ j, j < i → g j = -1) → (20 - i) < N → ∀ (H : Heap) (locs : List Loc), va_P D vwCl [(mo, .inr (4, [.ref ma, .ref mk, .ref mtx, .int (nI n), .int (nI tn), .ref m0, .ref m1, .ref m2, .ref m3, .int fl, .int fk, .int ot, .ref mb, .int of_, .int os_, .int (nI rd), .int (nI sc), .int (nI ed), .int ts, .int tkd, .int tl])), (ma, .inl (cI, 200, .inl ar)), (mk, .inl (cI, 20, .inl g))] H → va_D A [(mo, .inr (4, [.ref ma, .ref mk, .ref mtx, .int (nI n), .int (nI tn), .ref m0, .ref m1, .ref m2, .ref m3, .int fl, .int fk, .int ot, .ref mb, .int of_, .int os_, .int (nI rd), .int (nI sc), .int (nI ed), .int ts, .int tkd, .int tl])), (ma, .inl (cI, 200, .inl ar)), (mk, .inl (cI, 20, .inl g))] → va_S A H0 H locs → ∀ (ls : Array Slot), lv_has ls 2 [(0, .ref mo), (1, .int (nI i))] →  W p l e R s m args below meth c H locs 0 0 Q (F0 m 24 ls []) := by
  intro N
  induction N with
  | zero =>
    intro i g hi hg hN
    exact absurd hN (Nat.not_lt_zero _)
  | succ N ih =>
    intro i g hi hg hN H locs hP hD hS ls hl
    refine lv_iload_n hx hb dX4_forget_24 rfl (lv_at hl 1 rfl) ?_
    refine lv_bipush (v := nI 20) hx hb dX4_forget_25 (by decide) ?_
    refine lv_icmp_ge (tgt := 43) hx hb dX4_forget_27 (by decide) (fun c_27 => ?_) (fun c_27 => ?_)
    ·
      have c_27 := (nI_leI (by omega) (by omega)).mp c_27
      exact hex g (fun j h => hg j (by omega))  H locs (hP.sub [0, 1, 2] rfl) (hD.sub [0, 1, 2] (by decide) rfl) hS ls (lv_sub hl [0] rfl)
    ·
      have c_27 := (mt (nI_leI (by omega) (by omega)).mpr c_27)
      refine lv_aload_n hx hb dX4_forget_30 rfl (lv_at hl 0 rfl) ?_
      refine va_get (D := D) (ci := 4) (v := .ref mk) (C := RX4) (T := TX4) (N := 21) hx hb hw iwX4 hown hK.1 hP 0 rfl rfl 1 (by decide) (hw _ xw_293) (fun _ h9 => h9) rfl dX4_forget_31 ?_
      refine lv_iload_n hx hb dX4_forget_34 rfl (lv_at hl 1 rfl) ?_
      refine lv_iconst (v := (-1)) hx hb dX4_forget_35 (by decide) ?_
      refine es_iast hx hb hK.1 hP hD hS 2 0 rfl rfl (by omega) (Nat.le_of_ble_eq_true rfl) dX4_forget_36 (fun H locs hP hD hS => ?_)
      have hP : va_P D vwCl [(mo, .inr (4, [.ref ma, .ref mk, .ref mtx, .int (nI n), .int (nI tn), .ref m0, .ref m1, .ref m2, .ref m3, .int fl, .int fk, .int ot, .ref mb, .int of_, .int os_, .int (nI rd), .int (nI sc), .int (nI ed), .int ts, .int tkd, .int tl])), (ma, .inl (cI, 200, .inl ar)), (mk, .inl (cI, 20, .inl (upd g i (-1))))] H := hP
      have hD : va_D A [(mo, .inr (4, [.ref ma, .ref mk, .ref mtx, .int (nI n), .int (nI tn), .ref m0, .ref m1, .ref m2, .ref m3, .int fl, .int fk, .int ot, .ref mb, .int of_, .int os_, .int (nI rd), .int (nI sc), .int (nI ed), .int ts, .int tkd, .int tl])), (ma, .inl (cI, 200, .inl ar)), (mk, .inl (cI, 20, .inl (upd g i (-1))))] := hD
      refine lv_iinc (v := nI (i + 1)) (lv' := [(1, .int (nI (i + 1))), (0, .ref mo)]) hx hb dX4_forget_37 hl (k := 1) rfl (nI_1 _) (by decide) rfl (fun ls hl => ?_)
      refine lv_goto (tgt := 24) hx hb dX4_forget_40 (by decide) ?_
      exact ih (i + 1) (upd g i (-1)) (by first | assumption | omega) (es_ext hg) (by omega) H locs (hP.sub [0, 1, 2] rfl) (hD.sub [0, 1, 2] (by decide) rfl) hS ls (lv_sub hl [1, 0] rfl)
set_option maxHeartbeats 1000000 in
set_option maxRecDepth 100000 in
/-- X4.forget  -/
theorem c_X4_forget (l : Launch) (D : va_G) (cI : ClassId) (sz : Nat) (mo : Nat) (ma : Nat) (mk : Nat) (mtx : Nat) (m0 : Nat) (m1 : Nat) (m2 : Nat) (m3 : Nat) (mb : Nat) (ar : Nat → Int32) (ki : Nat → Int32) (n : Nat) (tn : Nat) (fl : Int32) (fk : Int32) (ot : Int32) (of_ : Int32) (os_ : Int32) (rd : Nat) (sc : Nat) (ed : Nat) (ts : Int32) (tkd : Int32) (tl : Int32)  : Met l yX4_forget (Cond.code yX4_forget cX4_forget 2 none :: es_T) { frames := 0, cells := 0, slots := 0, locals := 0 } (va_Pc [.ref mo] (es_W D cI sz [(mo, .inr (4, [.ref ma, .ref mk, .ref mtx, .int (nI n), .int (nI tn), .ref m0, .ref m1, .ref m2, .ref m3, .int fl, .int fk, .int ot, .ref mb, .int of_, .int os_, .int (nI rd), .int (nI sc), .int (nI ed), .int ts, .int tkd, .int tl])), (ma, .inl (cI, 200, .inl ar)), (mk, .inl (cI, 20, .inl ki))])) (va_Qv (fun _ => True) (fun (u : Unit) zt => va_P D vwCl [(mo, .inr (4, [.ref ma, .ref mk, .ref mtx, .int (nI 0), .int (nI 0), .ref m0, .ref m1, .ref m2, .ref m3, .int (-1), .int (nI 0), .int ot, .ref mb, .int of_, .int os_, .int (nI 0), .int (nI 0), .int (nI 0), .int ts, .int tkd, .int tl])), (ma, .inl (cI, 200, .inl (fun _ => -1))), (mk, .inl (cI, 20, .inl (fun _ => -1)))] zt.heap ∧ va_D (va_A [(mo, .inr (4, [.ref ma, .ref mk, .ref mtx, .int (nI n), .int (nI tn), .ref m0, .ref m1, .ref m2, .ref m3, .int fl, .int fk, .int ot, .ref mb, .int of_, .int os_, .int (nI rd), .int (nI sc), .int (nI ed), .int ts, .int tkd, .int tl])), (ma, .inl (cI, 200, .inl ar)), (mk, .inl (cI, 20, .inl ki))] sz) [(mo, .inr (4, [.ref ma, .ref mk, .ref mtx, .int (nI 0), .int (nI 0), .ref m0, .ref m1, .ref m2, .ref m3, .int (-1), .int (nI 0), .int ot, .ref mb, .int of_, .int os_, .int (nI 0), .int (nI 0), .int (nI 0), .int ts, .int tkd, .int tl])), (ma, .inl (cI, 200, .inl (fun _ => -1))), (mk, .inl (cI, 20, .inl (fun _ => -1)))]) (va_A [(mo, .inr (4, [.ref ma, .ref mk, .ref mtx, .int (nI n), .int (nI tn), .ref m0, .ref m1, .ref m2, .ref m3, .int fl, .int fk, .int ot, .ref mb, .int of_, .int os_, .int (nI rd), .int (nI sc), .int (nI ed), .int ts, .int tkd, .int tl])), (ma, .inl (cI, 200, .inl ar)), (mk, .inl (cI, 20, .inl ki))] sz)) 0 0 (va_A [(mo, .inr (4, [.ref ma, .ref mk, .ref mtx, .int (nI n), .int (nI tn), .ref m0, .ref m1, .ref m2, .ref m3, .int fl, .int fk, .int ot, .ref mb, .int of_, .int os_, .int (nI rd), .int (nI sc), .int (nI ed), .int ts, .int tkd, .int tl])), (ma, .inl (cI, 200, .inl ar)), (mk, .inl (cI, 20, .inl ki))] sz) := by
  refine Met.ofW (cc := cX4_forget) (maxL := 2) (ret := none) (by decide) rfl ?_
  intro p e s m args below meth c s₁ B hml hv
  obtain ⟨rfl, hsz, hP, hK, hD0⟩ := hv
  have hx := B.exec
  have hb := B.bytes
  have hr := B.returns
  have hts := atoms_spec (ws := (Cond.code yX4_forget cX4_forget 2 none :: es_T)) B.pre
  have hw : ∀ w ∈ es_T, w.before _ s = true := fun w h => hts w (List.mem_cons_of_mem _ h)
  have hown : s.vm.findClass RX4 = some m.cls := findClass_of_methodNamed B.named
  have hlocks := B.notSynchronized
  have hRm : 0 ≤ (headSpec (Cond.code yX4_forget cX4_forget 2 none :: es_T) { frames := 0, cells := 0, slots := 0, locals := 0 }).room.frames ∧ 0 ≤ (headSpec (Cond.code yX4_forget cX4_forget 2 none :: es_T) { frames := 0, cells := 0, slots := 0, locals := 0 }).room.locals := ⟨Nat.le_refl _, Nat.le_refl _⟩
  have hRc : 0 ≤ (headSpec (Cond.code yX4_forget cX4_forget 2 none :: es_T) { frames := 0, cells := 0, slots := 0, locals := 0 }).room.cells ∧ 0 ≤ (headSpec (Cond.code yX4_forget cX4_forget 2 none :: es_T) { frames := 0, cells := 0, slots := 0, locals := 0 }).room.slots := ⟨Nat.le_refl _, Nat.le_refl _⟩
  subst hsz
  have hD := hD0.self (sz := s.heap.size)
  generalize hAe : va_A [(mo, .inr (4, [.ref ma, .ref mk, .ref mtx, .int (nI n), .int (nI tn), .ref m0, .ref m1, .ref m2, .ref m3, .int fl, .int fk, .int ot, .ref mb, .int of_, .int os_, .int (nI rd), .int (nI sc), .int (nI ed), .int ts, .int tkd, .int tl])), (ma, .inl (cI, 200, .inl ar)), (mk, .inl (cI, 20, .inl ki))] s.heap.size = A at hD ⊢
  have hA : ∀ q : Nat, s.heap.size ≤ q → A q := fun q h => by rw [← hAe]; exact Or.inr h
  have hS : va_S A s.heap s.heap [] := va_S.rf
  have hl := lv_entry ([.ref mo]) (n := 2) (Nat.le_of_ble_eq_true rfl)
  rw [lg_entry_eq]
  generalize (lg_sl ([.ref mo]) ++ List.replicate (2 - (lg_sl ([.ref mo])).length) Slot.unset).toArray = ls at hl ⊢
  have hl : lv_has ls 2 [(0, .ref mo)] := hl
  refine lv_iconst (v := nI 0) hx hb dX4_forget_0 (by decide) ?_
  refine lv_istore_n (lv' := [(1, .int (nI 0)), (0, .ref mo)]) hx hb dX4_forget_1 rfl hl (by decide) rfl (fun ls hl => ?_)
  refine lp_fgA D cI mo ma mk mtx m0 m1 m2 m3 mb n tn fl fk ot of_ os_ rd sc ed ts tkd tl ki hx hb hml hown hw hK ⟨Nat.le_trans (Nat.le_of_ble_eq_true rfl) hRm.1, Nat.le_trans (Nat.le_of_ble_eq_true rfl) hRm.2⟩ hA  (fun g hg H locs hP hD hS ls hl => ?_) ((200 - 0) + 1) 0 ar (Nat.zero_le _) (fun j h => absurd h (Nat.not_lt_zero _)) (Nat.lt_succ_self _) s.heap [] (hP.sub [0, 1, 2] rfl) (hD.sub [0, 1, 2] (by decide) rfl) hS ls (lv_sub hl [1, 0] rfl)
  obtain ⟨hP, hD⟩ := es_P_arr hP hD 1 rfl (fun _ => -1) hg
  have hP : va_P D vwCl [(mo, .inr (4, [.ref ma, .ref mk, .ref mtx, .int (nI n), .int (nI tn), .ref m0, .ref m1, .ref m2, .ref m3, .int fl, .int fk, .int ot, .ref mb, .int of_, .int os_, .int (nI rd), .int (nI sc), .int (nI ed), .int ts, .int tkd, .int tl])), (ma, .inl (cI, 200, .inl (fun _ => -1))), (mk, .inl (cI, 20, .inl ki))] H := hP
  have hD : va_D A [(mo, .inr (4, [.ref ma, .ref mk, .ref mtx, .int (nI n), .int (nI tn), .ref m0, .ref m1, .ref m2, .ref m3, .int fl, .int fk, .int ot, .ref mb, .int of_, .int os_, .int (nI rd), .int (nI sc), .int (nI ed), .int ts, .int tkd, .int tl])), (ma, .inl (cI, 200, .inl (fun _ => -1))), (mk, .inl (cI, 20, .inl ki))] := hD
  refine lv_iconst (v := nI 0) hx hb dX4_forget_22 (by decide) ?_
  refine lv_istore_n (lv' := [(1, .int (nI 0)), (0, .ref mo)]) hx hb dX4_forget_23 rfl hl (by decide) rfl (fun ls hl => ?_)
  refine lp_fgB D cI mo ma mk mtx m0 m1 m2 m3 mb n tn fl fk ot of_ os_ rd sc ed ts tkd tl (fun _ => -1) hx hb hml hown hw hK ⟨Nat.le_trans (Nat.le_of_ble_eq_true rfl) hRm.1, Nat.le_trans (Nat.le_of_ble_eq_true rfl) hRm.2⟩ hA  (fun g hg H locs hP hD hS ls hl => ?_) ((20 - 0) + 1) 0 ki (Nat.zero_le _) (fun j h => absurd h (Nat.not_lt_zero _)) (Nat.lt_succ_self _) H locs (hP.sub [0, 1, 2] rfl) (hD.sub [0, 1, 2] (by decide) rfl) hS ls (lv_sub hl [1, 0] rfl)
  obtain ⟨hP, hD⟩ := es_P_arr hP hD 2 rfl (fun _ => -1) hg
  have hP : va_P D vwCl [(mo, .inr (4, [.ref ma, .ref mk, .ref mtx, .int (nI n), .int (nI tn), .ref m0, .ref m1, .ref m2, .ref m3, .int fl, .int fk, .int ot, .ref mb, .int of_, .int os_, .int (nI rd), .int (nI sc), .int (nI ed), .int ts, .int tkd, .int tl])), (ma, .inl (cI, 200, .inl (fun _ => -1))), (mk, .inl (cI, 20, .inl (fun _ => -1)))] H := hP
  have hD : va_D A [(mo, .inr (4, [.ref ma, .ref mk, .ref mtx, .int (nI n), .int (nI tn), .ref m0, .ref m1, .ref m2, .ref m3, .int fl, .int fk, .int ot, .ref mb, .int of_, .int os_, .int (nI rd), .int (nI sc), .int (nI ed), .int ts, .int tkd, .int tl])), (ma, .inl (cI, 200, .inl (fun _ => -1))), (mk, .inl (cI, 20, .inl (fun _ => -1)))] := hD
  refine lv_aload_n hx hb dX4_forget_43 rfl (lv_at hl 0 rfl) ?_
  refine lv_iconst (v := nI 0) hx hb dX4_forget_44 (by decide) ?_
  refine va_put (D := D) (ci := 4) (v := .int (nI 0)) (ty := .int) (C := RX4) (T := TX4) (N := 21) hx hb hw iwX4 tyX4 tyX4_ok nmX4 hown hK.1 hP hD hS 0 rfl rfl 3 (by decide) (hw _ xw_260) (fun _ h9 => h9) rfl (by decide +kernel) rfl rfl (Nat.le_of_ble_eq_true rfl) dX4_forget_45 (fun H locs hP hD hS => ?_)
  have hP : va_P D vwCl [(mo, .inr (4, [.ref ma, .ref mk, .ref mtx, .int (nI 0), .int (nI tn), .ref m0, .ref m1, .ref m2, .ref m3, .int fl, .int fk, .int ot, .ref mb, .int of_, .int os_, .int (nI rd), .int (nI sc), .int (nI ed), .int ts, .int tkd, .int tl])), (ma, .inl (cI, 200, .inl (fun _ => -1))), (mk, .inl (cI, 20, .inl (fun _ => -1)))] H := hP
  have hD : va_D A [(mo, .inr (4, [.ref ma, .ref mk, .ref mtx, .int (nI 0), .int (nI tn), .ref m0, .ref m1, .ref m2, .ref m3, .int fl, .int fk, .int ot, .ref mb, .int of_, .int os_, .int (nI rd), .int (nI sc), .int (nI ed), .int ts, .int tkd, .int tl])), (ma, .inl (cI, 200, .inl (fun _ => -1))), (mk, .inl (cI, 20, .inl (fun _ => -1)))] := hD
  refine lv_aload_n hx hb dX4_forget_48 rfl (lv_at hl 0 rfl) ?_
  refine lv_iconst (v := nI 0) hx hb dX4_forget_49 (by decide) ?_
  refine va_put (D := D) (ci := 4) (v := .int (nI 0)) (ty := .int) (C := RX4) (T := TX4) (N := 21) hx hb hw iwX4 tyX4 tyX4_ok nmX4 hown hK.1 hP hD hS 0 rfl rfl 4 (by decide) (hw _ xw_268) (fun _ h9 => h9) rfl (by decide +kernel) rfl rfl (Nat.le_of_ble_eq_true rfl) dX4_forget_50 (fun H locs hP hD hS => ?_)
  have hP : va_P D vwCl [(mo, .inr (4, [.ref ma, .ref mk, .ref mtx, .int (nI 0), .int (nI 0), .ref m0, .ref m1, .ref m2, .ref m3, .int fl, .int fk, .int ot, .ref mb, .int of_, .int os_, .int (nI rd), .int (nI sc), .int (nI ed), .int ts, .int tkd, .int tl])), (ma, .inl (cI, 200, .inl (fun _ => -1))), (mk, .inl (cI, 20, .inl (fun _ => -1)))] H := hP
  have hD : va_D A [(mo, .inr (4, [.ref ma, .ref mk, .ref mtx, .int (nI 0), .int (nI 0), .ref m0, .ref m1, .ref m2, .ref m3, .int fl, .int fk, .int ot, .ref mb, .int of_, .int os_, .int (nI rd), .int (nI sc), .int (nI ed), .int ts, .int tkd, .int tl])), (ma, .inl (cI, 200, .inl (fun _ => -1))), (mk, .inl (cI, 20, .inl (fun _ => -1)))] := hD
  refine lv_aload_n hx hb dX4_forget_53 rfl (lv_at hl 0 rfl) ?_
  refine lv_iconst (v := (-1)) hx hb dX4_forget_54 (by decide) ?_
  refine va_put (D := D) (ci := 4) (v := .int (-1)) (ty := .int) (C := RX4) (T := TX4) (N := 21) hx hb hw iwX4 tyX4 tyX4_ok nmX4 hown hK.1 hP hD hS 0 rfl rfl 9 (by decide) (hw _ xw_273) (fun _ h9 => h9) rfl (by decide +kernel) rfl rfl (Nat.le_of_ble_eq_true rfl) dX4_forget_55 (fun H locs hP hD hS => ?_)
  have hP : va_P D vwCl [(mo, .inr (4, [.ref ma, .ref mk, .ref mtx, .int (nI 0), .int (nI 0), .ref m0, .ref m1, .ref m2, .ref m3, .int (-1), .int fk, .int ot, .ref mb, .int of_, .int os_, .int (nI rd), .int (nI sc), .int (nI ed), .int ts, .int tkd, .int tl])), (ma, .inl (cI, 200, .inl (fun _ => -1))), (mk, .inl (cI, 20, .inl (fun _ => -1)))] H := hP
  have hD : va_D A [(mo, .inr (4, [.ref ma, .ref mk, .ref mtx, .int (nI 0), .int (nI 0), .ref m0, .ref m1, .ref m2, .ref m3, .int (-1), .int fk, .int ot, .ref mb, .int of_, .int os_, .int (nI rd), .int (nI sc), .int (nI ed), .int ts, .int tkd, .int tl])), (ma, .inl (cI, 200, .inl (fun _ => -1))), (mk, .inl (cI, 20, .inl (fun _ => -1)))] := hD
  refine lv_aload_n hx hb dX4_forget_58 rfl (lv_at hl 0 rfl) ?_
  refine lv_iconst (v := nI 0) hx hb dX4_forget_59 (by decide) ?_
  refine va_put (D := D) (ci := 4) (v := .int (nI 0)) (ty := .int) (C := RX4) (T := TX4) (N := 21) hx hb hw iwX4 tyX4 tyX4_ok nmX4 hown hK.1 hP hD hS 0 rfl rfl 10 (by decide) (hw _ xw_274) (fun _ h9 => h9) rfl (by decide +kernel) rfl rfl (Nat.le_of_ble_eq_true rfl) dX4_forget_60 (fun H locs hP hD hS => ?_)
  have hP : va_P D vwCl [(mo, .inr (4, [.ref ma, .ref mk, .ref mtx, .int (nI 0), .int (nI 0), .ref m0, .ref m1, .ref m2, .ref m3, .int (-1), .int (nI 0), .int ot, .ref mb, .int of_, .int os_, .int (nI rd), .int (nI sc), .int (nI ed), .int ts, .int tkd, .int tl])), (ma, .inl (cI, 200, .inl (fun _ => -1))), (mk, .inl (cI, 20, .inl (fun _ => -1)))] H := hP
  have hD : va_D A [(mo, .inr (4, [.ref ma, .ref mk, .ref mtx, .int (nI 0), .int (nI 0), .ref m0, .ref m1, .ref m2, .ref m3, .int (-1), .int (nI 0), .int ot, .ref mb, .int of_, .int os_, .int (nI rd), .int (nI sc), .int (nI ed), .int ts, .int tkd, .int tl])), (ma, .inl (cI, 200, .inl (fun _ => -1))), (mk, .inl (cI, 20, .inl (fun _ => -1)))] := hD
  refine lv_aload_n hx hb dX4_forget_63 rfl (lv_at hl 0 rfl) ?_
  refine lv_iconst (v := nI 0) hx hb dX4_forget_64 (by decide) ?_
  refine va_put (D := D) (ci := 4) (v := .int (nI 0)) (ty := .int) (C := RX4) (T := TX4) (N := 21) hx hb hw iwX4 tyX4 tyX4_ok nmX4 hown hK.1 hP hD hS 0 rfl rfl 15 (by decide) (hw _ xw_275) (fun _ h9 => h9) rfl (by decide +kernel) rfl rfl (Nat.le_of_ble_eq_true rfl) dX4_forget_65 (fun H locs hP hD hS => ?_)
  have hP : va_P D vwCl [(mo, .inr (4, [.ref ma, .ref mk, .ref mtx, .int (nI 0), .int (nI 0), .ref m0, .ref m1, .ref m2, .ref m3, .int (-1), .int (nI 0), .int ot, .ref mb, .int of_, .int os_, .int (nI 0), .int (nI sc), .int (nI ed), .int ts, .int tkd, .int tl])), (ma, .inl (cI, 200, .inl (fun _ => -1))), (mk, .inl (cI, 20, .inl (fun _ => -1)))] H := hP
  have hD : va_D A [(mo, .inr (4, [.ref ma, .ref mk, .ref mtx, .int (nI 0), .int (nI 0), .ref m0, .ref m1, .ref m2, .ref m3, .int (-1), .int (nI 0), .int ot, .ref mb, .int of_, .int os_, .int (nI 0), .int (nI sc), .int (nI ed), .int ts, .int tkd, .int tl])), (ma, .inl (cI, 200, .inl (fun _ => -1))), (mk, .inl (cI, 20, .inl (fun _ => -1)))] := hD
  refine lv_aload_n hx hb dX4_forget_68 rfl (lv_at hl 0 rfl) ?_
  refine lv_iconst (v := nI 0) hx hb dX4_forget_69 (by decide) ?_
  refine va_put (D := D) (ci := 4) (v := .int (nI 0)) (ty := .int) (C := RX4) (T := TX4) (N := 21) hx hb hw iwX4 tyX4 tyX4_ok nmX4 hown hK.1 hP hD hS 0 rfl rfl 16 (by decide) (hw _ xw_276) (fun _ h9 => h9) rfl (by decide +kernel) rfl rfl (Nat.le_of_ble_eq_true rfl) dX4_forget_70 (fun H locs hP hD hS => ?_)
  have hP : va_P D vwCl [(mo, .inr (4, [.ref ma, .ref mk, .ref mtx, .int (nI 0), .int (nI 0), .ref m0, .ref m1, .ref m2, .ref m3, .int (-1), .int (nI 0), .int ot, .ref mb, .int of_, .int os_, .int (nI 0), .int (nI 0), .int (nI ed), .int ts, .int tkd, .int tl])), (ma, .inl (cI, 200, .inl (fun _ => -1))), (mk, .inl (cI, 20, .inl (fun _ => -1)))] H := hP
  have hD : va_D A [(mo, .inr (4, [.ref ma, .ref mk, .ref mtx, .int (nI 0), .int (nI 0), .ref m0, .ref m1, .ref m2, .ref m3, .int (-1), .int (nI 0), .int ot, .ref mb, .int of_, .int os_, .int (nI 0), .int (nI 0), .int (nI ed), .int ts, .int tkd, .int tl])), (ma, .inl (cI, 200, .inl (fun _ => -1))), (mk, .inl (cI, 20, .inl (fun _ => -1)))] := hD
  refine lv_aload_n hx hb dX4_forget_73 rfl (lv_at hl 0 rfl) ?_
  refine lv_iconst (v := nI 0) hx hb dX4_forget_74 (by decide) ?_
  refine va_put (D := D) (ci := 4) (v := .int (nI 0)) (ty := .int) (C := RX4) (T := TX4) (N := 21) hx hb hw iwX4 tyX4 tyX4_ok nmX4 hown hK.1 hP hD hS 0 rfl rfl 17 (by decide) (hw _ xw_277) (fun _ h9 => h9) rfl (by decide +kernel) rfl rfl (Nat.le_of_ble_eq_true rfl) dX4_forget_75 (fun H locs hP hD hS => ?_)
  have hP : va_P D vwCl [(mo, .inr (4, [.ref ma, .ref mk, .ref mtx, .int (nI 0), .int (nI 0), .ref m0, .ref m1, .ref m2, .ref m3, .int (-1), .int (nI 0), .int ot, .ref mb, .int of_, .int os_, .int (nI 0), .int (nI 0), .int (nI 0), .int ts, .int tkd, .int tl])), (ma, .inl (cI, 200, .inl (fun _ => -1))), (mk, .inl (cI, 20, .inl (fun _ => -1)))] H := hP
  have hD : va_D A [(mo, .inr (4, [.ref ma, .ref mk, .ref mtx, .int (nI 0), .int (nI 0), .ref m0, .ref m1, .ref m2, .ref m3, .int (-1), .int (nI 0), .int ot, .ref mb, .int of_, .int os_, .int (nI 0), .int (nI 0), .int (nI 0), .int ts, .int tkd, .int tl])), (ma, .inl (cI, 200, .inl (fun _ => -1))), (mk, .inl (cI, 20, .inl (fun _ => -1)))] := hD
  exact W.vret hx hb hr (fun zt ht hW => ⟨⟨(), rfl, trivial, ⟨by rw [ht]; exact hP.sub [0, 1, 2] rfl, hD.sub [0, 1, 2] (by decide) rfl⟩⟩, hS.F ht⟩) hS.2.2 dX4_forget_78
set_option maxHeartbeats 1000000 in
set_option maxRecDepth 100000 in
/-- X4.init  -/
theorem c_X4_init (l : Launch) (D : va_G) (cI : ClassId) (sz : Nat) (mo : Nat)  : Met l yX4_init (Cond.code yX4_init cX4_init 1 none :: es_T) { frames := 1, cells := 8, slots := 2620, locals := 21 } (va_Pc [.ref mo] (es_W D cI sz [(mo, .inr (4, [.null, .null, .null, .int 0, .int 0, .null, .null, .null, .null, .int 0, .int 0, .int 0, .null, .int 0, .int 0, .int 0, .int 0, .int 0, .int 0, .int 0, .int 0]))])) (va_Qv (fun _ => True) (fun (u : (Nat × Nat × Nat) × (Nat × Nat × Nat × Nat) × Nat) zt => va_P D vwCl [(mo, .inr (4, [.ref u.1.1, .ref u.1.2.1, .ref u.1.2.2, .int (nI 0), .int (nI 0), .ref u.2.1.1, .ref u.2.1.2.1, .ref u.2.1.2.2.1, .ref u.2.1.2.2.2, .int (-1), .int (nI 0), .int 0, .ref u.2.2, .int 0, .int 0, .int (nI 0), .int (nI 0), .int (nI 0), .int 0, .int 0, .int 0])), (u.1.1, .inl (cI, 200, .inl (fun _ => -1))), (u.1.2.1, .inl (cI, 20, .inl (fun _ => -1))), (u.1.2.2, .inl (cI, 400, .inl (fun _ => 0))), (u.2.1.1, .inl (cI, 400, .inl (fun _ => 0))), (u.2.1.2.1, .inl (cI, 400, .inl (fun _ => 0))), (u.2.1.2.2.1, .inl (cI, 400, .inl (fun _ => 0))), (u.2.1.2.2.2, .inl (cI, 400, .inl (fun _ => 0))), (u.2.2, .inl (cI, 400, .inl (fun _ => 0)))] zt.heap ∧ va_D (va_A [(mo, .inr (4, [.null, .null, .null, .int 0, .int 0, .null, .null, .null, .null, .int 0, .int 0, .int 0, .null, .int 0, .int 0, .int 0, .int 0, .int 0, .int 0, .int 0, .int 0]))] sz) [(mo, .inr (4, [.ref u.1.1, .ref u.1.2.1, .ref u.1.2.2, .int (nI 0), .int (nI 0), .ref u.2.1.1, .ref u.2.1.2.1, .ref u.2.1.2.2.1, .ref u.2.1.2.2.2, .int (-1), .int (nI 0), .int 0, .ref u.2.2, .int 0, .int 0, .int (nI 0), .int (nI 0), .int (nI 0), .int 0, .int 0, .int 0])), (u.1.1, .inl (cI, 200, .inl (fun _ => -1))), (u.1.2.1, .inl (cI, 20, .inl (fun _ => -1))), (u.1.2.2, .inl (cI, 400, .inl (fun _ => 0))), (u.2.1.1, .inl (cI, 400, .inl (fun _ => 0))), (u.2.1.2.1, .inl (cI, 400, .inl (fun _ => 0))), (u.2.1.2.2.1, .inl (cI, 400, .inl (fun _ => 0))), (u.2.1.2.2.2, .inl (cI, 400, .inl (fun _ => 0))), (u.2.2, .inl (cI, 400, .inl (fun _ => 0)))]) (va_A [(mo, .inr (4, [.null, .null, .null, .int 0, .int 0, .null, .null, .null, .null, .int 0, .int 0, .int 0, .null, .int 0, .int 0, .int 0, .int 0, .int 0, .int 0, .int 0, .int 0]))] sz)) 8 2620 (va_A [(mo, .inr (4, [.null, .null, .null, .int 0, .int 0, .null, .null, .null, .null, .int 0, .int 0, .int 0, .null, .int 0, .int 0, .int 0, .int 0, .int 0, .int 0, .int 0, .int 0]))] sz) := by
  refine Met.ofW (cc := cX4_init) (maxL := 1) (ret := none) (by decide) rfl ?_
  intro p e s m args below meth c s₁ B hml hv
  obtain ⟨rfl, hsz, hP, hK, hD0⟩ := hv
  have hx := B.exec
  have hb := B.bytes
  have hr := B.returns
  have hts := atoms_spec (ws := (Cond.code yX4_init cX4_init 1 none :: es_T)) B.pre
  have hw : ∀ w ∈ es_T, w.before _ s = true := fun w h => hts w (List.mem_cons_of_mem _ h)
  have hown : s.vm.findClass RX4 = some m.cls := findClass_of_methodNamed B.named
  have hlocks := B.notSynchronized
  have hin : meth.name = "<init>" := (name_of_methodNamed B.named B.method).1
  have hRm : 1 ≤ (headSpec (Cond.code yX4_init cX4_init 1 none :: es_T) { frames := 1, cells := 8, slots := 2620, locals := 21 }).room.frames ∧ 21 ≤ (headSpec (Cond.code yX4_init cX4_init 1 none :: es_T) { frames := 1, cells := 8, slots := 2620, locals := 21 }).room.locals := ⟨Nat.le_refl _, Nat.le_refl _⟩
  have hRc : 8 ≤ (headSpec (Cond.code yX4_init cX4_init 1 none :: es_T) { frames := 1, cells := 8, slots := 2620, locals := 21 }).room.cells ∧ 2620 ≤ (headSpec (Cond.code yX4_init cX4_init 1 none :: es_T) { frames := 1, cells := 8, slots := 2620, locals := 21 }).room.slots := ⟨Nat.le_refl _, Nat.le_refl _⟩
  subst hsz
  have hD := hD0.self (sz := s.heap.size)
  generalize hAe : va_A [(mo, .inr (4, [.null, .null, .null, .int 0, .int 0, .null, .null, .null, .null, .int 0, .int 0, .int 0, .null, .int 0, .int 0, .int 0, .int 0, .int 0, .int 0, .int 0, .int 0]))] s.heap.size = A at hD ⊢
  have hA : ∀ q : Nat, s.heap.size ≤ q → A q := fun q h => by rw [← hAe]; exact Or.inr h
  have hS : va_S A s.heap s.heap [] := va_S.rf
  have hl := lv_entry ([.ref mo]) (n := 1) (Nat.le_of_ble_eq_true rfl)
  rw [lg_entry_eq]
  generalize (lg_sl ([.ref mo]) ++ List.replicate (1 - (lg_sl ([.ref mo])).length) Slot.unset).toArray = ls at hl ⊢
  have hl : lv_has ls 1 [(0, .ref mo)] := hl
  refine lv_aload_n hx hb dX4_init_0 rfl (lv_at hl 0 rfl) ?_
  refine W.objInit hx hb hown (hw _ xw_304) (hw _ xw_92) (hw _ xw_93) rfl (by rw [hml]; exact hl.1) rfl dX4_init_1 (Nat.le_trans (Nat.le_of_ble_eq_true rfl) hRm.1) (Nat.le_trans (Nat.le_of_ble_eq_true rfl) hRm.2) ?_
  refine W.eq (g2 := F0 m 4 ls []) rfl ?_
  refine lv_aload_n hx hb dX4_init_4 rfl (lv_at hl 0 rfl) ?_
  refine lv_sipush (v := nI 200) hx hb dX4_init_5 (by decide) ?_
  refine es_newa hx hb (hw _ xw_94) hK.1 hP hD hS hA (N' := 200) (by decide) (by decide) (Nat.le_trans (Nat.le_of_ble_eq_true rfl) hRc.1) (Nat.le_trans (Nat.le_of_ble_eq_true rfl) hRc.2) (by decide) dX4_init_8 (fun q_1 H hP hD hS => ?_)
  have hP : va_P D vwCl [(mo, .inr (4, [.null, .null, .null, .int 0, .int 0, .null, .null, .null, .null, .int 0, .int 0, .int 0, .null, .int 0, .int 0, .int 0, .int 0, .int 0, .int 0, .int 0, .int 0])), (q_1, .inl (cI, 200, .inl (fun _ => 0)))] H := hP
  have hD : va_D A [(mo, .inr (4, [.null, .null, .null, .int 0, .int 0, .null, .null, .null, .null, .int 0, .int 0, .int 0, .null, .int 0, .int 0, .int 0, .int 0, .int 0, .int 0, .int 0, .int 0])), (q_1, .inl (cI, 200, .inl (fun _ => 0)))] := hD
  refine W.widen (k := 1) (n := 200) (Nat.le_of_ble_eq_true rfl) (Nat.le_of_ble_eq_true rfl) ?_
  refine va_putF (D := D) (ci := 4) (v := .ref q_1) (ty := (.array .int)) (C := RX4) (T := TX4) (N := 21) hx hb hw iwX4 tyX4 tyX4_ok nmX4 hown hK.1 hP hD hS 0 rfl rfl 0 (by decide) (hw _ xw_261) (fun _ h9 => h9) rfl hin rfl (by decide +kernel) rfl rfl (Nat.le_of_ble_eq_true rfl) dX4_init_10 (fun H locs hP hD hS => ?_)
  have hP : va_P D vwCl [(mo, .inr (4, [.ref q_1, .null, .null, .int 0, .int 0, .null, .null, .null, .null, .int 0, .int 0, .int 0, .null, .int 0, .int 0, .int 0, .int 0, .int 0, .int 0, .int 0, .int 0])), (q_1, .inl (cI, 200, .inl (fun _ => 0)))] H := hP
  have hD : va_D A [(mo, .inr (4, [.ref q_1, .null, .null, .int 0, .int 0, .null, .null, .null, .null, .int 0, .int 0, .int 0, .null, .int 0, .int 0, .int 0, .int 0, .int 0, .int 0, .int 0, .int 0])), (q_1, .inl (cI, 200, .inl (fun _ => 0)))] := hD
  refine lv_aload_n hx hb dX4_init_13 rfl (lv_at hl 0 rfl) ?_
  refine lv_bipush (v := nI 20) hx hb dX4_init_14 (by decide) ?_
  refine es_newa hx hb (hw _ xw_94) hK.1 hP hD hS hA (N' := 20) (by decide) (by decide) (Nat.le_trans (Nat.le_of_ble_eq_true rfl) hRc.1) (Nat.le_trans (Nat.le_of_ble_eq_true rfl) hRc.2) (by decide) dX4_init_16 (fun q_2 H hP hD hS => ?_)
  have hP : va_P D vwCl [(mo, .inr (4, [.ref q_1, .null, .null, .int 0, .int 0, .null, .null, .null, .null, .int 0, .int 0, .int 0, .null, .int 0, .int 0, .int 0, .int 0, .int 0, .int 0, .int 0, .int 0])), (q_1, .inl (cI, 200, .inl (fun _ => 0))), (q_2, .inl (cI, 20, .inl (fun _ => 0)))] H := hP
  have hD : va_D A [(mo, .inr (4, [.ref q_1, .null, .null, .int 0, .int 0, .null, .null, .null, .null, .int 0, .int 0, .int 0, .null, .int 0, .int 0, .int 0, .int 0, .int 0, .int 0, .int 0, .int 0])), (q_1, .inl (cI, 200, .inl (fun _ => 0))), (q_2, .inl (cI, 20, .inl (fun _ => 0)))] := hD
  refine W.widen (k := 2) (n := 220) (Nat.le_of_ble_eq_true rfl) (Nat.le_of_ble_eq_true rfl) ?_
  refine va_putF (D := D) (ci := 4) (v := .ref q_2) (ty := (.array .int)) (C := RX4) (T := TX4) (N := 21) hx hb hw iwX4 tyX4 tyX4_ok nmX4 hown hK.1 hP hD hS 0 rfl rfl 1 (by decide) (hw _ xw_293) (fun _ h9 => h9) rfl hin rfl (by decide +kernel) rfl rfl (Nat.le_of_ble_eq_true rfl) dX4_init_18 (fun H locs hP hD hS => ?_)
  have hP : va_P D vwCl [(mo, .inr (4, [.ref q_1, .ref q_2, .null, .int 0, .int 0, .null, .null, .null, .null, .int 0, .int 0, .int 0, .null, .int 0, .int 0, .int 0, .int 0, .int 0, .int 0, .int 0, .int 0])), (q_1, .inl (cI, 200, .inl (fun _ => 0))), (q_2, .inl (cI, 20, .inl (fun _ => 0)))] H := hP
  have hD : va_D A [(mo, .inr (4, [.ref q_1, .ref q_2, .null, .int 0, .int 0, .null, .null, .null, .null, .int 0, .int 0, .int 0, .null, .int 0, .int 0, .int 0, .int 0, .int 0, .int 0, .int 0, .int 0])), (q_1, .inl (cI, 200, .inl (fun _ => 0))), (q_2, .inl (cI, 20, .inl (fun _ => 0)))] := hD
  refine lv_aload_n hx hb dX4_init_21 rfl (lv_at hl 0 rfl) ?_
  refine lv_sipush (v := nI 400) hx hb dX4_init_22 (by decide) ?_
  refine es_newa hx hb (hw _ xw_94) hK.1 hP hD hS hA (N' := 400) (by decide) (by decide) (Nat.le_trans (Nat.le_of_ble_eq_true rfl) hRc.1) (Nat.le_trans (Nat.le_of_ble_eq_true rfl) hRc.2) (by decide) dX4_init_25 (fun q_3 H hP hD hS => ?_)
  have hP : va_P D vwCl [(mo, .inr (4, [.ref q_1, .ref q_2, .null, .int 0, .int 0, .null, .null, .null, .null, .int 0, .int 0, .int 0, .null, .int 0, .int 0, .int 0, .int 0, .int 0, .int 0, .int 0, .int 0])), (q_1, .inl (cI, 200, .inl (fun _ => 0))), (q_2, .inl (cI, 20, .inl (fun _ => 0))), (q_3, .inl (cI, 400, .inl (fun _ => 0)))] H := hP
  have hD : va_D A [(mo, .inr (4, [.ref q_1, .ref q_2, .null, .int 0, .int 0, .null, .null, .null, .null, .int 0, .int 0, .int 0, .null, .int 0, .int 0, .int 0, .int 0, .int 0, .int 0, .int 0, .int 0])), (q_1, .inl (cI, 200, .inl (fun _ => 0))), (q_2, .inl (cI, 20, .inl (fun _ => 0))), (q_3, .inl (cI, 400, .inl (fun _ => 0)))] := hD
  refine W.widen (k := 3) (n := 620) (Nat.le_of_ble_eq_true rfl) (Nat.le_of_ble_eq_true rfl) ?_
  refine va_putF (D := D) (ci := 4) (v := .ref q_3) (ty := (.array .int)) (C := RX4) (T := TX4) (N := 21) hx hb hw iwX4 tyX4 tyX4_ok nmX4 hown hK.1 hP hD hS 0 rfl rfl 2 (by decide) (hw _ xw_266) (fun _ h9 => h9) rfl hin rfl (by decide +kernel) rfl rfl (Nat.le_of_ble_eq_true rfl) dX4_init_27 (fun H locs hP hD hS => ?_)
  have hP : va_P D vwCl [(mo, .inr (4, [.ref q_1, .ref q_2, .ref q_3, .int 0, .int 0, .null, .null, .null, .null, .int 0, .int 0, .int 0, .null, .int 0, .int 0, .int 0, .int 0, .int 0, .int 0, .int 0, .int 0])), (q_1, .inl (cI, 200, .inl (fun _ => 0))), (q_2, .inl (cI, 20, .inl (fun _ => 0))), (q_3, .inl (cI, 400, .inl (fun _ => 0)))] H := hP
  have hD : va_D A [(mo, .inr (4, [.ref q_1, .ref q_2, .ref q_3, .int 0, .int 0, .null, .null, .null, .null, .int 0, .int 0, .int 0, .null, .int 0, .int 0, .int 0, .int 0, .int 0, .int 0, .int 0, .int 0])), (q_1, .inl (cI, 200, .inl (fun _ => 0))), (q_2, .inl (cI, 20, .inl (fun _ => 0))), (q_3, .inl (cI, 400, .inl (fun _ => 0)))] := hD
  refine lv_aload_n hx hb dX4_init_30 rfl (lv_at hl 0 rfl) ?_
  refine lv_sipush (v := nI 400) hx hb dX4_init_31 (by decide) ?_
  refine es_newa hx hb (hw _ xw_94) hK.1 hP hD hS hA (N' := 400) (by decide) (by decide) (Nat.le_trans (Nat.le_of_ble_eq_true rfl) hRc.1) (Nat.le_trans (Nat.le_of_ble_eq_true rfl) hRc.2) (by decide) dX4_init_34 (fun q_4 H hP hD hS => ?_)
  have hP : va_P D vwCl [(mo, .inr (4, [.ref q_1, .ref q_2, .ref q_3, .int 0, .int 0, .null, .null, .null, .null, .int 0, .int 0, .int 0, .null, .int 0, .int 0, .int 0, .int 0, .int 0, .int 0, .int 0, .int 0])), (q_1, .inl (cI, 200, .inl (fun _ => 0))), (q_2, .inl (cI, 20, .inl (fun _ => 0))), (q_3, .inl (cI, 400, .inl (fun _ => 0))), (q_4, .inl (cI, 400, .inl (fun _ => 0)))] H := hP
  have hD : va_D A [(mo, .inr (4, [.ref q_1, .ref q_2, .ref q_3, .int 0, .int 0, .null, .null, .null, .null, .int 0, .int 0, .int 0, .null, .int 0, .int 0, .int 0, .int 0, .int 0, .int 0, .int 0, .int 0])), (q_1, .inl (cI, 200, .inl (fun _ => 0))), (q_2, .inl (cI, 20, .inl (fun _ => 0))), (q_3, .inl (cI, 400, .inl (fun _ => 0))), (q_4, .inl (cI, 400, .inl (fun _ => 0)))] := hD
  refine W.widen (k := 4) (n := 1020) (Nat.le_of_ble_eq_true rfl) (Nat.le_of_ble_eq_true rfl) ?_
  refine va_putF (D := D) (ci := 4) (v := .ref q_4) (ty := (.array .int)) (C := RX4) (T := TX4) (N := 21) hx hb hw iwX4 tyX4 tyX4_ok nmX4 hown hK.1 hP hD hS 0 rfl rfl 5 (by decide) (hw _ xw_279) (fun _ h9 => h9) rfl hin rfl (by decide +kernel) rfl rfl (Nat.le_of_ble_eq_true rfl) dX4_init_36 (fun H locs hP hD hS => ?_)
  have hP : va_P D vwCl [(mo, .inr (4, [.ref q_1, .ref q_2, .ref q_3, .int 0, .int 0, .ref q_4, .null, .null, .null, .int 0, .int 0, .int 0, .null, .int 0, .int 0, .int 0, .int 0, .int 0, .int 0, .int 0, .int 0])), (q_1, .inl (cI, 200, .inl (fun _ => 0))), (q_2, .inl (cI, 20, .inl (fun _ => 0))), (q_3, .inl (cI, 400, .inl (fun _ => 0))), (q_4, .inl (cI, 400, .inl (fun _ => 0)))] H := hP
  have hD : va_D A [(mo, .inr (4, [.ref q_1, .ref q_2, .ref q_3, .int 0, .int 0, .ref q_4, .null, .null, .null, .int 0, .int 0, .int 0, .null, .int 0, .int 0, .int 0, .int 0, .int 0, .int 0, .int 0, .int 0])), (q_1, .inl (cI, 200, .inl (fun _ => 0))), (q_2, .inl (cI, 20, .inl (fun _ => 0))), (q_3, .inl (cI, 400, .inl (fun _ => 0))), (q_4, .inl (cI, 400, .inl (fun _ => 0)))] := hD
  refine lv_aload_n hx hb dX4_init_39 rfl (lv_at hl 0 rfl) ?_
  refine lv_sipush (v := nI 400) hx hb dX4_init_40 (by decide) ?_
  refine es_newa hx hb (hw _ xw_94) hK.1 hP hD hS hA (N' := 400) (by decide) (by decide) (Nat.le_trans (Nat.le_of_ble_eq_true rfl) hRc.1) (Nat.le_trans (Nat.le_of_ble_eq_true rfl) hRc.2) (by decide) dX4_init_43 (fun q_5 H hP hD hS => ?_)
  have hP : va_P D vwCl [(mo, .inr (4, [.ref q_1, .ref q_2, .ref q_3, .int 0, .int 0, .ref q_4, .null, .null, .null, .int 0, .int 0, .int 0, .null, .int 0, .int 0, .int 0, .int 0, .int 0, .int 0, .int 0, .int 0])), (q_1, .inl (cI, 200, .inl (fun _ => 0))), (q_2, .inl (cI, 20, .inl (fun _ => 0))), (q_3, .inl (cI, 400, .inl (fun _ => 0))), (q_4, .inl (cI, 400, .inl (fun _ => 0))), (q_5, .inl (cI, 400, .inl (fun _ => 0)))] H := hP
  have hD : va_D A [(mo, .inr (4, [.ref q_1, .ref q_2, .ref q_3, .int 0, .int 0, .ref q_4, .null, .null, .null, .int 0, .int 0, .int 0, .null, .int 0, .int 0, .int 0, .int 0, .int 0, .int 0, .int 0, .int 0])), (q_1, .inl (cI, 200, .inl (fun _ => 0))), (q_2, .inl (cI, 20, .inl (fun _ => 0))), (q_3, .inl (cI, 400, .inl (fun _ => 0))), (q_4, .inl (cI, 400, .inl (fun _ => 0))), (q_5, .inl (cI, 400, .inl (fun _ => 0)))] := hD
  refine W.widen (k := 5) (n := 1420) (Nat.le_of_ble_eq_true rfl) (Nat.le_of_ble_eq_true rfl) ?_
  refine va_putF (D := D) (ci := 4) (v := .ref q_5) (ty := (.array .int)) (C := RX4) (T := TX4) (N := 21) hx hb hw iwX4 tyX4 tyX4_ok nmX4 hown hK.1 hP hD hS 0 rfl rfl 6 (by decide) (hw _ xw_305) (fun _ h9 => h9) rfl hin rfl (by decide +kernel) rfl rfl (Nat.le_of_ble_eq_true rfl) dX4_init_45 (fun H locs hP hD hS => ?_)
  have hP : va_P D vwCl [(mo, .inr (4, [.ref q_1, .ref q_2, .ref q_3, .int 0, .int 0, .ref q_4, .ref q_5, .null, .null, .int 0, .int 0, .int 0, .null, .int 0, .int 0, .int 0, .int 0, .int 0, .int 0, .int 0, .int 0])), (q_1, .inl (cI, 200, .inl (fun _ => 0))), (q_2, .inl (cI, 20, .inl (fun _ => 0))), (q_3, .inl (cI, 400, .inl (fun _ => 0))), (q_4, .inl (cI, 400, .inl (fun _ => 0))), (q_5, .inl (cI, 400, .inl (fun _ => 0)))] H := hP
  have hD : va_D A [(mo, .inr (4, [.ref q_1, .ref q_2, .ref q_3, .int 0, .int 0, .ref q_4, .ref q_5, .null, .null, .int 0, .int 0, .int 0, .null, .int 0, .int 0, .int 0, .int 0, .int 0, .int 0, .int 0, .int 0])), (q_1, .inl (cI, 200, .inl (fun _ => 0))), (q_2, .inl (cI, 20, .inl (fun _ => 0))), (q_3, .inl (cI, 400, .inl (fun _ => 0))), (q_4, .inl (cI, 400, .inl (fun _ => 0))), (q_5, .inl (cI, 400, .inl (fun _ => 0)))] := hD
  refine lv_aload_n hx hb dX4_init_48 rfl (lv_at hl 0 rfl) ?_
  refine lv_sipush (v := nI 400) hx hb dX4_init_49 (by decide) ?_
  refine es_newa hx hb (hw _ xw_94) hK.1 hP hD hS hA (N' := 400) (by decide) (by decide) (Nat.le_trans (Nat.le_of_ble_eq_true rfl) hRc.1) (Nat.le_trans (Nat.le_of_ble_eq_true rfl) hRc.2) (by decide) dX4_init_52 (fun q_6 H hP hD hS => ?_)
  have hP : va_P D vwCl [(mo, .inr (4, [.ref q_1, .ref q_2, .ref q_3, .int 0, .int 0, .ref q_4, .ref q_5, .null, .null, .int 0, .int 0, .int 0, .null, .int 0, .int 0, .int 0, .int 0, .int 0, .int 0, .int 0, .int 0])), (q_1, .inl (cI, 200, .inl (fun _ => 0))), (q_2, .inl (cI, 20, .inl (fun _ => 0))), (q_3, .inl (cI, 400, .inl (fun _ => 0))), (q_4, .inl (cI, 400, .inl (fun _ => 0))), (q_5, .inl (cI, 400, .inl (fun _ => 0))), (q_6, .inl (cI, 400, .inl (fun _ => 0)))] H := hP
  have hD : va_D A [(mo, .inr (4, [.ref q_1, .ref q_2, .ref q_3, .int 0, .int 0, .ref q_4, .ref q_5, .null, .null, .int 0, .int 0, .int 0, .null, .int 0, .int 0, .int 0, .int 0, .int 0, .int 0, .int 0, .int 0])), (q_1, .inl (cI, 200, .inl (fun _ => 0))), (q_2, .inl (cI, 20, .inl (fun _ => 0))), (q_3, .inl (cI, 400, .inl (fun _ => 0))), (q_4, .inl (cI, 400, .inl (fun _ => 0))), (q_5, .inl (cI, 400, .inl (fun _ => 0))), (q_6, .inl (cI, 400, .inl (fun _ => 0)))] := hD
  refine W.widen (k := 6) (n := 1820) (Nat.le_of_ble_eq_true rfl) (Nat.le_of_ble_eq_true rfl) ?_
  refine va_putF (D := D) (ci := 4) (v := .ref q_6) (ty := (.array .int)) (C := RX4) (T := TX4) (N := 21) hx hb hw iwX4 tyX4 tyX4_ok nmX4 hown hK.1 hP hD hS 0 rfl rfl 7 (by decide) (hw _ xw_306) (fun _ h9 => h9) rfl hin rfl (by decide +kernel) rfl rfl (Nat.le_of_ble_eq_true rfl) dX4_init_54 (fun H locs hP hD hS => ?_)
  have hP : va_P D vwCl [(mo, .inr (4, [.ref q_1, .ref q_2, .ref q_3, .int 0, .int 0, .ref q_4, .ref q_5, .ref q_6, .null, .int 0, .int 0, .int 0, .null, .int 0, .int 0, .int 0, .int 0, .int 0, .int 0, .int 0, .int 0])), (q_1, .inl (cI, 200, .inl (fun _ => 0))), (q_2, .inl (cI, 20, .inl (fun _ => 0))), (q_3, .inl (cI, 400, .inl (fun _ => 0))), (q_4, .inl (cI, 400, .inl (fun _ => 0))), (q_5, .inl (cI, 400, .inl (fun _ => 0))), (q_6, .inl (cI, 400, .inl (fun _ => 0)))] H := hP
  have hD : va_D A [(mo, .inr (4, [.ref q_1, .ref q_2, .ref q_3, .int 0, .int 0, .ref q_4, .ref q_5, .ref q_6, .null, .int 0, .int 0, .int 0, .null, .int 0, .int 0, .int 0, .int 0, .int 0, .int 0, .int 0, .int 0])), (q_1, .inl (cI, 200, .inl (fun _ => 0))), (q_2, .inl (cI, 20, .inl (fun _ => 0))), (q_3, .inl (cI, 400, .inl (fun _ => 0))), (q_4, .inl (cI, 400, .inl (fun _ => 0))), (q_5, .inl (cI, 400, .inl (fun _ => 0))), (q_6, .inl (cI, 400, .inl (fun _ => 0)))] := hD
  refine lv_aload_n hx hb dX4_init_57 rfl (lv_at hl 0 rfl) ?_
  refine lv_sipush (v := nI 400) hx hb dX4_init_58 (by decide) ?_
  refine es_newa hx hb (hw _ xw_94) hK.1 hP hD hS hA (N' := 400) (by decide) (by decide) (Nat.le_trans (Nat.le_of_ble_eq_true rfl) hRc.1) (Nat.le_trans (Nat.le_of_ble_eq_true rfl) hRc.2) (by decide) dX4_init_61 (fun q_7 H hP hD hS => ?_)
  have hP : va_P D vwCl [(mo, .inr (4, [.ref q_1, .ref q_2, .ref q_3, .int 0, .int 0, .ref q_4, .ref q_5, .ref q_6, .null, .int 0, .int 0, .int 0, .null, .int 0, .int 0, .int 0, .int 0, .int 0, .int 0, .int 0, .int 0])), (q_1, .inl (cI, 200, .inl (fun _ => 0))), (q_2, .inl (cI, 20, .inl (fun _ => 0))), (q_3, .inl (cI, 400, .inl (fun _ => 0))), (q_4, .inl (cI, 400, .inl (fun _ => 0))), (q_5, .inl (cI, 400, .inl (fun _ => 0))), (q_6, .inl (cI, 400, .inl (fun _ => 0))), (q_7, .inl (cI, 400, .inl (fun _ => 0)))] H := hP
  have hD : va_D A [(mo, .inr (4, [.ref q_1, .ref q_2, .ref q_3, .int 0, .int 0, .ref q_4, .ref q_5, .ref q_6, .null, .int 0, .int 0, .int 0, .null, .int 0, .int 0, .int 0, .int 0, .int 0, .int 0, .int 0, .int 0])), (q_1, .inl (cI, 200, .inl (fun _ => 0))), (q_2, .inl (cI, 20, .inl (fun _ => 0))), (q_3, .inl (cI, 400, .inl (fun _ => 0))), (q_4, .inl (cI, 400, .inl (fun _ => 0))), (q_5, .inl (cI, 400, .inl (fun _ => 0))), (q_6, .inl (cI, 400, .inl (fun _ => 0))), (q_7, .inl (cI, 400, .inl (fun _ => 0)))] := hD
  refine W.widen (k := 7) (n := 2220) (Nat.le_of_ble_eq_true rfl) (Nat.le_of_ble_eq_true rfl) ?_
  refine va_putF (D := D) (ci := 4) (v := .ref q_7) (ty := (.array .int)) (C := RX4) (T := TX4) (N := 21) hx hb hw iwX4 tyX4 tyX4_ok nmX4 hown hK.1 hP hD hS 0 rfl rfl 8 (by decide) (hw _ xw_280) (fun _ h9 => h9) rfl hin rfl (by decide +kernel) rfl rfl (Nat.le_of_ble_eq_true rfl) dX4_init_63 (fun H locs hP hD hS => ?_)
  have hP : va_P D vwCl [(mo, .inr (4, [.ref q_1, .ref q_2, .ref q_3, .int 0, .int 0, .ref q_4, .ref q_5, .ref q_6, .ref q_7, .int 0, .int 0, .int 0, .null, .int 0, .int 0, .int 0, .int 0, .int 0, .int 0, .int 0, .int 0])), (q_1, .inl (cI, 200, .inl (fun _ => 0))), (q_2, .inl (cI, 20, .inl (fun _ => 0))), (q_3, .inl (cI, 400, .inl (fun _ => 0))), (q_4, .inl (cI, 400, .inl (fun _ => 0))), (q_5, .inl (cI, 400, .inl (fun _ => 0))), (q_6, .inl (cI, 400, .inl (fun _ => 0))), (q_7, .inl (cI, 400, .inl (fun _ => 0)))] H := hP
  have hD : va_D A [(mo, .inr (4, [.ref q_1, .ref q_2, .ref q_3, .int 0, .int 0, .ref q_4, .ref q_5, .ref q_6, .ref q_7, .int 0, .int 0, .int 0, .null, .int 0, .int 0, .int 0, .int 0, .int 0, .int 0, .int 0, .int 0])), (q_1, .inl (cI, 200, .inl (fun _ => 0))), (q_2, .inl (cI, 20, .inl (fun _ => 0))), (q_3, .inl (cI, 400, .inl (fun _ => 0))), (q_4, .inl (cI, 400, .inl (fun _ => 0))), (q_5, .inl (cI, 400, .inl (fun _ => 0))), (q_6, .inl (cI, 400, .inl (fun _ => 0))), (q_7, .inl (cI, 400, .inl (fun _ => 0)))] := hD
  refine lv_aload_n hx hb dX4_init_66 rfl (lv_at hl 0 rfl) ?_
  refine lv_iconst (v := (-1)) hx hb dX4_init_67 (by decide) ?_
  refine va_put (D := D) (ci := 4) (v := .int (-1)) (ty := .int) (C := RX4) (T := TX4) (N := 21) hx hb hw iwX4 tyX4 tyX4_ok nmX4 hown hK.1 hP hD hS 0 rfl rfl 9 (by decide) (hw _ xw_273) (fun _ h9 => h9) rfl (by decide +kernel) rfl rfl (Nat.le_of_ble_eq_true rfl) dX4_init_68 (fun H locs hP hD hS => ?_)
  have hP : va_P D vwCl [(mo, .inr (4, [.ref q_1, .ref q_2, .ref q_3, .int 0, .int 0, .ref q_4, .ref q_5, .ref q_6, .ref q_7, .int (-1), .int 0, .int 0, .null, .int 0, .int 0, .int 0, .int 0, .int 0, .int 0, .int 0, .int 0])), (q_1, .inl (cI, 200, .inl (fun _ => 0))), (q_2, .inl (cI, 20, .inl (fun _ => 0))), (q_3, .inl (cI, 400, .inl (fun _ => 0))), (q_4, .inl (cI, 400, .inl (fun _ => 0))), (q_5, .inl (cI, 400, .inl (fun _ => 0))), (q_6, .inl (cI, 400, .inl (fun _ => 0))), (q_7, .inl (cI, 400, .inl (fun _ => 0)))] H := hP
  have hD : va_D A [(mo, .inr (4, [.ref q_1, .ref q_2, .ref q_3, .int 0, .int 0, .ref q_4, .ref q_5, .ref q_6, .ref q_7, .int (-1), .int 0, .int 0, .null, .int 0, .int 0, .int 0, .int 0, .int 0, .int 0, .int 0, .int 0])), (q_1, .inl (cI, 200, .inl (fun _ => 0))), (q_2, .inl (cI, 20, .inl (fun _ => 0))), (q_3, .inl (cI, 400, .inl (fun _ => 0))), (q_4, .inl (cI, 400, .inl (fun _ => 0))), (q_5, .inl (cI, 400, .inl (fun _ => 0))), (q_6, .inl (cI, 400, .inl (fun _ => 0))), (q_7, .inl (cI, 400, .inl (fun _ => 0)))] := hD
  refine lv_aload_n hx hb dX4_init_71 rfl (lv_at hl 0 rfl) ?_
  refine lv_sipush (v := nI 400) hx hb dX4_init_72 (by decide) ?_
  refine es_newa hx hb (hw _ xw_94) hK.1 hP hD hS hA (N' := 400) (by decide) (by decide) (Nat.le_trans (Nat.le_of_ble_eq_true rfl) hRc.1) (Nat.le_trans (Nat.le_of_ble_eq_true rfl) hRc.2) (by decide) dX4_init_75 (fun q_8 H hP hD hS => ?_)
  have hP : va_P D vwCl [(mo, .inr (4, [.ref q_1, .ref q_2, .ref q_3, .int 0, .int 0, .ref q_4, .ref q_5, .ref q_6, .ref q_7, .int (-1), .int 0, .int 0, .null, .int 0, .int 0, .int 0, .int 0, .int 0, .int 0, .int 0, .int 0])), (q_1, .inl (cI, 200, .inl (fun _ => 0))), (q_2, .inl (cI, 20, .inl (fun _ => 0))), (q_3, .inl (cI, 400, .inl (fun _ => 0))), (q_4, .inl (cI, 400, .inl (fun _ => 0))), (q_5, .inl (cI, 400, .inl (fun _ => 0))), (q_6, .inl (cI, 400, .inl (fun _ => 0))), (q_7, .inl (cI, 400, .inl (fun _ => 0))), (q_8, .inl (cI, 400, .inl (fun _ => 0)))] H := hP
  have hD : va_D A [(mo, .inr (4, [.ref q_1, .ref q_2, .ref q_3, .int 0, .int 0, .ref q_4, .ref q_5, .ref q_6, .ref q_7, .int (-1), .int 0, .int 0, .null, .int 0, .int 0, .int 0, .int 0, .int 0, .int 0, .int 0, .int 0])), (q_1, .inl (cI, 200, .inl (fun _ => 0))), (q_2, .inl (cI, 20, .inl (fun _ => 0))), (q_3, .inl (cI, 400, .inl (fun _ => 0))), (q_4, .inl (cI, 400, .inl (fun _ => 0))), (q_5, .inl (cI, 400, .inl (fun _ => 0))), (q_6, .inl (cI, 400, .inl (fun _ => 0))), (q_7, .inl (cI, 400, .inl (fun _ => 0))), (q_8, .inl (cI, 400, .inl (fun _ => 0)))] := hD
  refine W.widen (k := 8) (n := 2620) (Nat.le_of_ble_eq_true rfl) (Nat.le_of_ble_eq_true rfl) ?_
  refine va_putF (D := D) (ci := 4) (v := .ref q_8) (ty := (.array .int)) (C := RX4) (T := TX4) (N := 21) hx hb hw iwX4 tyX4 tyX4_ok nmX4 hown hK.1 hP hD hS 0 rfl rfl 12 (by decide) (hw _ xw_265) (fun _ h9 => h9) rfl hin rfl (by decide +kernel) rfl rfl (Nat.le_of_ble_eq_true rfl) dX4_init_77 (fun H locs hP hD hS => ?_)
  have hP : va_P D vwCl [(mo, .inr (4, [.ref q_1, .ref q_2, .ref q_3, .int 0, .int 0, .ref q_4, .ref q_5, .ref q_6, .ref q_7, .int (-1), .int 0, .int 0, .ref q_8, .int 0, .int 0, .int 0, .int 0, .int 0, .int 0, .int 0, .int 0])), (q_1, .inl (cI, 200, .inl (fun _ => 0))), (q_2, .inl (cI, 20, .inl (fun _ => 0))), (q_3, .inl (cI, 400, .inl (fun _ => 0))), (q_4, .inl (cI, 400, .inl (fun _ => 0))), (q_5, .inl (cI, 400, .inl (fun _ => 0))), (q_6, .inl (cI, 400, .inl (fun _ => 0))), (q_7, .inl (cI, 400, .inl (fun _ => 0))), (q_8, .inl (cI, 400, .inl (fun _ => 0)))] H := hP
  have hD : va_D A [(mo, .inr (4, [.ref q_1, .ref q_2, .ref q_3, .int 0, .int 0, .ref q_4, .ref q_5, .ref q_6, .ref q_7, .int (-1), .int 0, .int 0, .ref q_8, .int 0, .int 0, .int 0, .int 0, .int 0, .int 0, .int 0, .int 0])), (q_1, .inl (cI, 200, .inl (fun _ => 0))), (q_2, .inl (cI, 20, .inl (fun _ => 0))), (q_3, .inl (cI, 400, .inl (fun _ => 0))), (q_4, .inl (cI, 400, .inl (fun _ => 0))), (q_5, .inl (cI, 400, .inl (fun _ => 0))), (q_6, .inl (cI, 400, .inl (fun _ => 0))), (q_7, .inl (cI, 400, .inl (fun _ => 0))), (q_8, .inl (cI, 400, .inl (fun _ => 0)))] := hD
  refine lv_aload_n hx hb dX4_init_80 rfl (lv_at hl 0 rfl) ?_
  refine es_cv (wr := [(q_3, .inl (cI, 400, .inl (fun _ => 0))), (q_4, .inl (cI, 400, .inl (fun _ => 0))), (q_5, .inl (cI, 400, .inl (fun _ => 0))), (q_6, .inl (cI, 400, .inl (fun _ => 0))), (q_7, .inl (cI, 400, .inl (fun _ => 0))), (q_8, .inl (cI, 400, .inl (fun _ => 0)))]) (va_runV (As := []) (rest := []) ⟨hx, hb, hml, hown, hw⟩ (c_X4_forget l D cI H.size mo q_1 q_2 q_3 q_4 q_5 q_6 q_7 q_8 (fun _ => 0) (fun _ => 0) 0 0 (-1) 0 0 0 0 0 0 0 0 0 0 ) (cwV 0 hw (es_v xw_269 xw_270 xw_271 xw_272 xw_8) rfl rfl rfl kv_X4_forget ⟨Nat.le_trans (Nat.le_of_ble_eq_true rfl) hRm.1, Nat.le_trans (Nat.le_of_ble_eq_true rfl) hRm.2⟩) (es_WV hK (hP.sub (ws' := [(mo, .inr (4, [.ref q_1, .ref q_2, .ref q_3, .int 0, .int 0, .ref q_4, .ref q_5, .ref q_6, .ref q_7, .int (-1), .int 0, .int 0, .ref q_8, .int 0, .int 0, .int 0, .int 0, .int 0, .int 0, .int 0, .int 0])), (q_1, .inl (cI, 200, .inl (fun _ => 0))), (q_2, .inl (cI, 20, .inl (fun _ => 0)))]) [0, 1, 2] rfl) (hD.sub (ws' := [(mo, .inr (4, [.ref q_1, .ref q_2, .ref q_3, .int 0, .int 0, .ref q_4, .ref q_5, .ref q_6, .ref q_7, .int (-1), .int 0, .int 0, .ref q_8, .int 0, .int 0, .int 0, .int 0, .int 0, .int 0, .int 0, .int 0])), (q_1, .inl (cI, 200, .inl (fun _ => 0))), (q_2, .inl (cI, 20, .inl (fun _ => 0)))]) [0, 1, 2] (by decide) rfl) rfl rfl) rfl rfl hl.1 rfl (lv_room (Nat.le_of_ble_eq_true rfl)) dX4_init_81 ⟨(Nat.le_trans (Nat.le_of_ble_eq_true rfl) hRc.1), (Nat.le_trans (Nat.le_of_ble_eq_true rfl) hRc.2)⟩) hP hD hS hA [0, 1, 2] [3, 4, 5, 6, 7, 8] rfl rfl (by decide) (by decide) (fun u_9 H locs hu_9 hP hD hS => ?_)
  have hP : va_P D vwCl [(q_3, .inl (cI, 400, .inl (fun _ => 0))), (q_4, .inl (cI, 400, .inl (fun _ => 0))), (q_5, .inl (cI, 400, .inl (fun _ => 0))), (q_6, .inl (cI, 400, .inl (fun _ => 0))), (q_7, .inl (cI, 400, .inl (fun _ => 0))), (q_8, .inl (cI, 400, .inl (fun _ => 0))), (mo, .inr (4, [.ref q_1, .ref q_2, .ref q_3, .int (nI 0), .int (nI 0), .ref q_4, .ref q_5, .ref q_6, .ref q_7, .int (-1), .int (nI 0), .int 0, .ref q_8, .int 0, .int 0, .int (nI 0), .int (nI 0), .int (nI 0), .int 0, .int 0, .int 0])), (q_1, .inl (cI, 200, .inl (fun _ => -1))), (q_2, .inl (cI, 20, .inl (fun _ => -1)))] H := hP
  have hD : va_D A [(q_3, .inl (cI, 400, .inl (fun _ => 0))), (q_4, .inl (cI, 400, .inl (fun _ => 0))), (q_5, .inl (cI, 400, .inl (fun _ => 0))), (q_6, .inl (cI, 400, .inl (fun _ => 0))), (q_7, .inl (cI, 400, .inl (fun _ => 0))), (q_8, .inl (cI, 400, .inl (fun _ => 0))), (mo, .inr (4, [.ref q_1, .ref q_2, .ref q_3, .int (nI 0), .int (nI 0), .ref q_4, .ref q_5, .ref q_6, .ref q_7, .int (-1), .int (nI 0), .int 0, .ref q_8, .int 0, .int 0, .int (nI 0), .int (nI 0), .int (nI 0), .int 0, .int 0, .int 0])), (q_1, .inl (cI, 200, .inl (fun _ => -1))), (q_2, .inl (cI, 20, .inl (fun _ => -1)))] := hD
  refine W.widen (k := 8) (n := 2620) (Nat.le_of_ble_eq_true rfl) (Nat.le_of_ble_eq_true rfl) ?_
  exact W.vret hx hb hr (fun zt ht hW => ⟨⟨((q_1, q_2, q_3), (q_4, q_5, q_6, q_7), q_8), rfl, trivial, ⟨by rw [ht]; exact hP.sub [6, 7, 8, 0, 1, 2, 3, 4, 5] rfl, hD.sub [6, 7, 8, 0, 1, 2, 3, 4, 5] (by decide) rfl⟩⟩, hS.F ht⟩) hS.2.2 dX4_init_84
set_option maxHeartbeats 1000000 in
set_option maxRecDepth 100000 in
/-- X4.arrow  -/
theorem c_X4_arrow (l : Launch) (D : va_G) (cI : ClassId) (sz : Nat) (mo : Nat) (ma : Nat) (mk : Nat) (mtx : Nat) (m0 : Nat) (m1 : Nat) (m2 : Nat) (m3 : Nat) (mb : Nat) (ar : Nat → Int32) (n : Nat) (tn : Nat) (fl : Int32) (fk : Int32) (ot : Int32) (of_ : Int32) (os_ : Int32) (rd : Nat) (sc : Nat) (ed : Nat) (ts : Int32) (tkd : Int32) (tl : Int32) (x : Int32) (y : Int32) (z : Int32) (hn : n ≤ 400) : Met l yX4_arrow (Cond.code yX4_arrow cX4_arrow 4 (some .boolean) :: es_T) { frames := 0, cells := 0, slots := 0, locals := 0 } (va_Pc [.ref mo, .int x, .int y, .int z] (es_W D cI sz [(mo, .inr (4, [.ref ma, .ref mk, .ref mtx, .int (nI n), .int (nI tn), .ref m0, .ref m1, .ref m2, .ref m3, .int fl, .int fk, .int ot, .ref mb, .int of_, .int os_, .int (nI rd), .int (nI sc), .int (nI ed), .int ts, .int tkd, .int tl])), (ma, .inl (cI, 200, .inl ar))])) (va_Qi (fun q u => (q = nI 1 ∧ (n = 0 ∧ es_okA x y z) ∧ u = upd ar (10 * x.toNatClampNeg + y.toNatClampNeg) z) ∨ (q = nI 0 ∧ ¬ (n = 0 ∧ es_okA x y z) ∧ u = ar)) (fun (u : Nat → Int32) zt => va_P D vwCl [(mo, .inr (4, [.ref ma, .ref mk, .ref mtx, .int (nI n), .int (nI tn), .ref m0, .ref m1, .ref m2, .ref m3, .int fl, .int fk, .int ot, .ref mb, .int of_, .int os_, .int (nI rd), .int (nI sc), .int (nI ed), .int ts, .int tkd, .int tl])), (ma, .inl (cI, 200, .inl u))] zt.heap ∧ va_D (va_A [(mo, .inr (4, [.ref ma, .ref mk, .ref mtx, .int (nI n), .int (nI tn), .ref m0, .ref m1, .ref m2, .ref m3, .int fl, .int fk, .int ot, .ref mb, .int of_, .int os_, .int (nI rd), .int (nI sc), .int (nI ed), .int ts, .int tkd, .int tl])), (ma, .inl (cI, 200, .inl ar))] sz) [(mo, .inr (4, [.ref ma, .ref mk, .ref mtx, .int (nI n), .int (nI tn), .ref m0, .ref m1, .ref m2, .ref m3, .int fl, .int fk, .int ot, .ref mb, .int of_, .int os_, .int (nI rd), .int (nI sc), .int (nI ed), .int ts, .int tkd, .int tl])), (ma, .inl (cI, 200, .inl u))]) (va_A [(mo, .inr (4, [.ref ma, .ref mk, .ref mtx, .int (nI n), .int (nI tn), .ref m0, .ref m1, .ref m2, .ref m3, .int fl, .int fk, .int ot, .ref mb, .int of_, .int os_, .int (nI rd), .int (nI sc), .int (nI ed), .int ts, .int tkd, .int tl])), (ma, .inl (cI, 200, .inl ar))] sz)) 0 0 (va_A [(mo, .inr (4, [.ref ma, .ref mk, .ref mtx, .int (nI n), .int (nI tn), .ref m0, .ref m1, .ref m2, .ref m3, .int fl, .int fk, .int ot, .ref mb, .int of_, .int os_, .int (nI rd), .int (nI sc), .int (nI ed), .int ts, .int tkd, .int tl])), (ma, .inl (cI, 200, .inl ar))] sz) := by
  refine Met.ofW (cc := cX4_arrow) (maxL := 4) (ret := (some .boolean)) (by decide) rfl ?_
  intro p e s m args below meth c s₁ B hml hv
  obtain ⟨rfl, hsz, hP, hK, hD0⟩ := hv
  have hx := B.exec
  have hb := B.bytes
  have hr := B.returns
  have hts := atoms_spec (ws := (Cond.code yX4_arrow cX4_arrow 4 (some .boolean) :: es_T)) B.pre
  have hw : ∀ w ∈ es_T, w.before _ s = true := fun w h => hts w (List.mem_cons_of_mem _ h)
  have hown : s.vm.findClass RX4 = some m.cls := findClass_of_methodNamed B.named
  have hlocks := B.notSynchronized
  have hRm : 0 ≤ (headSpec (Cond.code yX4_arrow cX4_arrow 4 (some .boolean) :: es_T) { frames := 0, cells := 0, slots := 0, locals := 0 }).room.frames ∧ 0 ≤ (headSpec (Cond.code yX4_arrow cX4_arrow 4 (some .boolean) :: es_T) { frames := 0, cells := 0, slots := 0, locals := 0 }).room.locals := ⟨Nat.le_refl _, Nat.le_refl _⟩
  have hRc : 0 ≤ (headSpec (Cond.code yX4_arrow cX4_arrow 4 (some .boolean) :: es_T) { frames := 0, cells := 0, slots := 0, locals := 0 }).room.cells ∧ 0 ≤ (headSpec (Cond.code yX4_arrow cX4_arrow 4 (some .boolean) :: es_T) { frames := 0, cells := 0, slots := 0, locals := 0 }).room.slots := ⟨Nat.le_refl _, Nat.le_refl _⟩
  subst hsz
  have hD := hD0.self (sz := s.heap.size)
  generalize hAe : va_A [(mo, .inr (4, [.ref ma, .ref mk, .ref mtx, .int (nI n), .int (nI tn), .ref m0, .ref m1, .ref m2, .ref m3, .int fl, .int fk, .int ot, .ref mb, .int of_, .int os_, .int (nI rd), .int (nI sc), .int (nI ed), .int ts, .int tkd, .int tl])), (ma, .inl (cI, 200, .inl ar))] s.heap.size = A at hD ⊢
  have hA : ∀ q : Nat, s.heap.size ≤ q → A q := fun q h => by rw [← hAe]; exact Or.inr h
  have hS : va_S A s.heap s.heap [] := va_S.rf
  have hl := lv_entry ([.ref mo, .int x, .int y, .int z]) (n := 4) (Nat.le_of_ble_eq_true rfl)
  rw [lg_entry_eq]
  generalize (lg_sl ([.ref mo, .int x, .int y, .int z]) ++ List.replicate (4 - (lg_sl ([.ref mo, .int x, .int y, .int z])).length) Slot.unset).toArray = ls at hl ⊢
  have hl : lv_has ls 4 [(0, .ref mo), (1, .int x), (2, .int y), (3, .int z)] := hl
  refine lv_aload_n hx hb dX4_arrow_0 rfl (lv_at hl 0 rfl) ?_
  refine va_get (D := D) (ci := 4) (v := .int (nI n)) (C := RX4) (T := TX4) (N := 21) hx hb hw iwX4 hown hK.1 hP 0 rfl rfl 3 (by decide) (hw _ xw_260) (fun _ h9 => h9) rfl dX4_arrow_1 ?_
  refine lv_if_gt (tgt := 38) hx hb dX4_arrow_4 (by decide) (fun c_4 => ?_) (fun c_4 => ?_)
  ·
    have c_4 := (nI_ltI (a := 0) (b := n) (by omega) (by omega)).mp c_4
    refine lv_iconst (v := nI 0) hx hb dX4_arrow_38 (by decide) ?_
    exact W.zret (v := nI 0) hx hb hr rfl (fun zt ht hW => ⟨⟨_, ar, rfl, Or.inr ⟨rfl, (fun h => by exact absurd h.1 (by omega)), rfl⟩, ⟨by rw [ht]; exact hP.sub [0, 1] rfl, hD.sub [0, 1] (by decide) rfl⟩⟩, hS.F ht⟩) hS.2.2 dX4_arrow_39
  ·
    have c_4 := (mt (nI_ltI (a := 0) (b := n) (by omega) (by omega)).mpr c_4)
    refine lv_iload_n hx hb dX4_arrow_7 rfl (lv_at hl 1 rfl) ?_
    refine lv_if_lt (tgt := 38) hx hb dX4_arrow_8 (by decide) (fun c_8 => ?_) (fun c_8 => ?_)
    ·
      refine lv_iconst (v := nI 0) hx hb dX4_arrow_38 (by decide) ?_
      exact W.zret (v := nI 0) hx hb hr rfl (fun zt ht hW => ⟨⟨_, ar, rfl, Or.inr ⟨rfl, (fun h => by exact absurd c_8 (Int32.not_lt.mpr h.2.1.1)), rfl⟩, ⟨by rw [ht]; exact hP.sub [0, 1] rfl, hD.sub [0, 1] (by decide) rfl⟩⟩, hS.F ht⟩) hS.2.2 dX4_arrow_39
    ·
      refine lv_iload_n hx hb dX4_arrow_11 rfl (lv_at hl 1 rfl) ?_
      refine lv_bipush (v := nI 20) hx hb dX4_arrow_12 (by decide) ?_
      refine lv_icmp_ge (tgt := 38) hx hb dX4_arrow_14 (by decide) (fun c_14 => ?_) (fun c_14 => ?_)
      ·
        refine lv_iconst (v := nI 0) hx hb dX4_arrow_38 (by decide) ?_
        exact W.zret (v := nI 0) hx hb hr rfl (fun zt ht hW => ⟨⟨_, ar, rfl, Or.inr ⟨rfl, (fun h => by exact absurd h.2.1.2 (Int32.not_lt.mpr c_14)), rfl⟩, ⟨by rw [ht]; exact hP.sub [0, 1] rfl, hD.sub [0, 1] (by decide) rfl⟩⟩, hS.F ht⟩) hS.2.2 dX4_arrow_39
      ·
        refine lv_iload_n hx hb dX4_arrow_17 rfl (lv_at hl 2 rfl) ?_
        refine lv_if_lt (tgt := 38) hx hb dX4_arrow_18 (by decide) (fun c_18 => ?_) (fun c_18 => ?_)
        ·
          refine lv_iconst (v := nI 0) hx hb dX4_arrow_38 (by decide) ?_
          exact W.zret (v := nI 0) hx hb hr rfl (fun zt ht hW => ⟨⟨_, ar, rfl, Or.inr ⟨rfl, (fun h => by exact absurd c_18 (Int32.not_lt.mpr h.2.2.1.1)), rfl⟩, ⟨by rw [ht]; exact hP.sub [0, 1] rfl, hD.sub [0, 1] (by decide) rfl⟩⟩, hS.F ht⟩) hS.2.2 dX4_arrow_39
        ·
          refine lv_iload_n hx hb dX4_arrow_21 rfl (lv_at hl 2 rfl) ?_
          refine lv_bipush (v := nI 10) hx hb dX4_arrow_22 (by decide) ?_
          refine lv_icmp_ge (tgt := 38) hx hb dX4_arrow_24 (by decide) (fun c_24 => ?_) (fun c_24 => ?_)
          ·
            refine lv_iconst (v := nI 0) hx hb dX4_arrow_38 (by decide) ?_
            exact W.zret (v := nI 0) hx hb hr rfl (fun zt ht hW => ⟨⟨_, ar, rfl, Or.inr ⟨rfl, (fun h => by exact absurd h.2.2.1.2 (Int32.not_lt.mpr c_24)), rfl⟩, ⟨by rw [ht]; exact hP.sub [0, 1] rfl, hD.sub [0, 1] (by decide) rfl⟩⟩, hS.F ht⟩) hS.2.2 dX4_arrow_39
          ·
            refine lv_iload_n hx hb dX4_arrow_27 rfl (lv_at hl 3 rfl) ?_
            refine lv_iconst (v := (-1)) hx hb dX4_arrow_28 (by decide) ?_
            refine lv_icmp_lt (tgt := 38) hx hb dX4_arrow_29 (by decide) (fun c_29 => ?_) (fun c_29 => ?_)
            ·
              refine lv_iconst (v := nI 0) hx hb dX4_arrow_38 (by decide) ?_
              exact W.zret (v := nI 0) hx hb hr rfl (fun zt ht hW => ⟨⟨_, ar, rfl, Or.inr ⟨rfl, (fun h => by exact (es_zok.mp h.2.2.2).1 c_29), rfl⟩, ⟨by rw [ht]; exact hP.sub [0, 1] rfl, hD.sub [0, 1] (by decide) rfl⟩⟩, hS.F ht⟩) hS.2.2 dX4_arrow_39
            ·
              refine lv_iload_n hx hb dX4_arrow_32 rfl (lv_at hl 3 rfl) ?_
              refine lv_bipush (v := nI 20) hx hb dX4_arrow_33 (by decide) ?_
              refine lv_icmp_lt (tgt := 40) hx hb dX4_arrow_35 (by decide) (fun c_35 => ?_) (fun c_35 => ?_)
              ·
                obtain ⟨x0, hx0, rfl⟩ := es_nat (Int32.not_lt.mp c_8) (Int32.not_le.mp c_14) (by decide)
                obtain ⟨y0, hy0, rfl⟩ := es_nat (Int32.not_lt.mp c_18) (Int32.not_le.mp c_24) (by decide)
                refine lv_aload_n hx hb dX4_arrow_40 rfl (lv_at hl 0 rfl) ?_
                refine va_get (D := D) (ci := 4) (v := .ref ma) (C := RX4) (T := TX4) (N := 21) hx hb hw iwX4 hown hK.1 hP 0 rfl rfl 0 (by decide) (hw _ xw_261) (fun _ h9 => h9) rfl dX4_arrow_41 ?_
                refine lv_bipush (v := nI 10) hx hb dX4_arrow_44 (by decide) ?_
                refine lv_iload_n hx hb dX4_arrow_46 rfl (lv_at hl 1 rfl) ?_
                refine lv_imul hx hb dX4_arrow_47 ?_
                refine es_top (y := nI (10 * x0)) (pk_mul _ _) ?_
                refine lv_iload_n hx hb dX4_arrow_48 rfl (lv_at hl 2 rfl) ?_
                refine lv_iadd hx hb dX4_arrow_49 ?_
                refine es_top (y := nI ((10 * x0) + y0)) (nI_add _ _) ?_
                refine lv_iload_n hx hb dX4_arrow_50 rfl (lv_at hl 3 rfl) ?_
                refine es_iast hx hb hK.1 hP hD hS 1 0 rfl rfl (by omega) (Nat.le_of_ble_eq_true rfl) dX4_arrow_51 (fun H locs hP hD hS => ?_)
                have hP : va_P D vwCl [(mo, .inr (4, [.ref ma, .ref mk, .ref mtx, .int (nI n), .int (nI tn), .ref m0, .ref m1, .ref m2, .ref m3, .int fl, .int fk, .int ot, .ref mb, .int of_, .int os_, .int (nI rd), .int (nI sc), .int (nI ed), .int ts, .int tkd, .int tl])), (ma, .inl (cI, 200, .inl (upd ar ((10 * x0) + y0) z)))] H := hP
                have hD : va_D A [(mo, .inr (4, [.ref ma, .ref mk, .ref mtx, .int (nI n), .int (nI tn), .ref m0, .ref m1, .ref m2, .ref m3, .int fl, .int fk, .int ot, .ref mb, .int of_, .int os_, .int (nI rd), .int (nI sc), .int (nI ed), .int ts, .int tkd, .int tl])), (ma, .inl (cI, 200, .inl (upd ar ((10 * x0) + y0) z)))] := hD
                refine lv_iconst (v := nI 1) hx hb dX4_arrow_52 (by decide) ?_
                exact W.zret (v := nI 1) hx hb hr rfl (fun zt ht hW => ⟨⟨_, (upd ar (10 * x0 + y0) z), rfl, Or.inl ⟨rfl, ⟨by omega, ⟨Int32.not_lt.mp c_8, Int32.not_le.mp c_14⟩, ⟨Int32.not_lt.mp c_18, Int32.not_le.mp c_24⟩, es_zok.mpr ⟨c_29, c_35⟩⟩, (by rw [nI_clamp (by omega), nI_clamp (by omega)])⟩, ⟨by rw [ht]; exact hP.sub [0, 1] rfl, hD.sub [0, 1] (by decide) rfl⟩⟩, hS.F ht⟩) hS.2.2 dX4_arrow_53
              ·
                refine lv_iconst (v := nI 0) hx hb dX4_arrow_38 (by decide) ?_
                exact W.zret (v := nI 0) hx hb hr rfl (fun zt ht hW => ⟨⟨_, ar, rfl, Or.inr ⟨rfl, (fun h => by exact c_35 (es_zok.mp h.2.2.2).2), rfl⟩, ⟨by rw [ht]; exact hP.sub [0, 1] rfl, hD.sub [0, 1] (by decide) rfl⟩⟩, hS.F ht⟩) hS.2.2 dX4_arrow_39
set_option maxHeartbeats 1000000 in
set_option maxRecDepth 100000 in
/-- X4.kind  -/
theorem c_X4_kind (l : Launch) (D : va_G) (cI : ClassId) (sz : Nat) (mo : Nat) (ma : Nat) (mk : Nat) (mtx : Nat) (m0 : Nat) (m1 : Nat) (m2 : Nat) (m3 : Nat) (mb : Nat) (ki : Nat → Int32) (n : Nat) (tn : Nat) (fl : Int32) (fk : Int32) (ot : Int32) (of_ : Int32) (os_ : Int32) (rd : Nat) (sc : Nat) (ed : Nat) (ts : Int32) (tkd : Int32) (tl : Int32) (x : Int32) (y : Int32) (hn : n ≤ 400) : Met l yX4_kind (Cond.code yX4_kind cX4_kind 3 (some .boolean) :: es_T) { frames := 0, cells := 0, slots := 0, locals := 0 } (va_Pc [.ref mo, .int x, .int y] (es_W D cI sz [(mo, .inr (4, [.ref ma, .ref mk, .ref mtx, .int (nI n), .int (nI tn), .ref m0, .ref m1, .ref m2, .ref m3, .int fl, .int fk, .int ot, .ref mb, .int of_, .int os_, .int (nI rd), .int (nI sc), .int (nI ed), .int ts, .int tkd, .int tl])), (mk, .inl (cI, 20, .inl ki))])) (va_Qi (fun q u => (q = nI 1 ∧ (n = 0 ∧ es_okK x y) ∧ u = upd ki x.toNatClampNeg y) ∨ (q = nI 0 ∧ ¬ (n = 0 ∧ es_okK x y) ∧ u = ki)) (fun (u : Nat → Int32) zt => va_P D vwCl [(mo, .inr (4, [.ref ma, .ref mk, .ref mtx, .int (nI n), .int (nI tn), .ref m0, .ref m1, .ref m2, .ref m3, .int fl, .int fk, .int ot, .ref mb, .int of_, .int os_, .int (nI rd), .int (nI sc), .int (nI ed), .int ts, .int tkd, .int tl])), (mk, .inl (cI, 20, .inl u))] zt.heap ∧ va_D (va_A [(mo, .inr (4, [.ref ma, .ref mk, .ref mtx, .int (nI n), .int (nI tn), .ref m0, .ref m1, .ref m2, .ref m3, .int fl, .int fk, .int ot, .ref mb, .int of_, .int os_, .int (nI rd), .int (nI sc), .int (nI ed), .int ts, .int tkd, .int tl])), (mk, .inl (cI, 20, .inl ki))] sz) [(mo, .inr (4, [.ref ma, .ref mk, .ref mtx, .int (nI n), .int (nI tn), .ref m0, .ref m1, .ref m2, .ref m3, .int fl, .int fk, .int ot, .ref mb, .int of_, .int os_, .int (nI rd), .int (nI sc), .int (nI ed), .int ts, .int tkd, .int tl])), (mk, .inl (cI, 20, .inl u))]) (va_A [(mo, .inr (4, [.ref ma, .ref mk, .ref mtx, .int (nI n), .int (nI tn), .ref m0, .ref m1, .ref m2, .ref m3, .int fl, .int fk, .int ot, .ref mb, .int of_, .int os_, .int (nI rd), .int (nI sc), .int (nI ed), .int ts, .int tkd, .int tl])), (mk, .inl (cI, 20, .inl ki))] sz)) 0 0 (va_A [(mo, .inr (4, [.ref ma, .ref mk, .ref mtx, .int (nI n), .int (nI tn), .ref m0, .ref m1, .ref m2, .ref m3, .int fl, .int fk, .int ot, .ref mb, .int of_, .int os_, .int (nI rd), .int (nI sc), .int (nI ed), .int ts, .int tkd, .int tl])), (mk, .inl (cI, 20, .inl ki))] sz) := by
  refine Met.ofW (cc := cX4_kind) (maxL := 3) (ret := (some .boolean)) (by decide) rfl ?_
  intro p e s m args below meth c s₁ B hml hv
  obtain ⟨rfl, hsz, hP, hK, hD0⟩ := hv
  have hx := B.exec
  have hb := B.bytes
  have hr := B.returns
  have hts := atoms_spec (ws := (Cond.code yX4_kind cX4_kind 3 (some .boolean) :: es_T)) B.pre
  have hw : ∀ w ∈ es_T, w.before _ s = true := fun w h => hts w (List.mem_cons_of_mem _ h)
  have hown : s.vm.findClass RX4 = some m.cls := findClass_of_methodNamed B.named
  have hlocks := B.notSynchronized
  have hRm : 0 ≤ (headSpec (Cond.code yX4_kind cX4_kind 3 (some .boolean) :: es_T) { frames := 0, cells := 0, slots := 0, locals := 0 }).room.frames ∧ 0 ≤ (headSpec (Cond.code yX4_kind cX4_kind 3 (some .boolean) :: es_T) { frames := 0, cells := 0, slots := 0, locals := 0 }).room.locals := ⟨Nat.le_refl _, Nat.le_refl _⟩
  have hRc : 0 ≤ (headSpec (Cond.code yX4_kind cX4_kind 3 (some .boolean) :: es_T) { frames := 0, cells := 0, slots := 0, locals := 0 }).room.cells ∧ 0 ≤ (headSpec (Cond.code yX4_kind cX4_kind 3 (some .boolean) :: es_T) { frames := 0, cells := 0, slots := 0, locals := 0 }).room.slots := ⟨Nat.le_refl _, Nat.le_refl _⟩
  subst hsz
  have hD := hD0.self (sz := s.heap.size)
  generalize hAe : va_A [(mo, .inr (4, [.ref ma, .ref mk, .ref mtx, .int (nI n), .int (nI tn), .ref m0, .ref m1, .ref m2, .ref m3, .int fl, .int fk, .int ot, .ref mb, .int of_, .int os_, .int (nI rd), .int (nI sc), .int (nI ed), .int ts, .int tkd, .int tl])), (mk, .inl (cI, 20, .inl ki))] s.heap.size = A at hD ⊢
  have hA : ∀ q : Nat, s.heap.size ≤ q → A q := fun q h => by rw [← hAe]; exact Or.inr h
  have hS : va_S A s.heap s.heap [] := va_S.rf
  have hl := lv_entry ([.ref mo, .int x, .int y]) (n := 3) (Nat.le_of_ble_eq_true rfl)
  rw [lg_entry_eq]
  generalize (lg_sl ([.ref mo, .int x, .int y]) ++ List.replicate (3 - (lg_sl ([.ref mo, .int x, .int y])).length) Slot.unset).toArray = ls at hl ⊢
  have hl : lv_has ls 3 [(0, .ref mo), (1, .int x), (2, .int y)] := hl
  refine lv_aload_n hx hb dX4_kind_0 rfl (lv_at hl 0 rfl) ?_
  refine va_get (D := D) (ci := 4) (v := .int (nI n)) (C := RX4) (T := TX4) (N := 21) hx hb hw iwX4 hown hK.1 hP 0 rfl rfl 3 (by decide) (hw _ xw_260) (fun _ h9 => h9) rfl dX4_kind_1 ?_
  refine lv_if_gt (tgt := 28) hx hb dX4_kind_4 (by decide) (fun c_4 => ?_) (fun c_4 => ?_)
  ·
    have c_4 := (nI_ltI (a := 0) (b := n) (by omega) (by omega)).mp c_4
    refine lv_iconst (v := nI 0) hx hb dX4_kind_28 (by decide) ?_
    exact W.zret (v := nI 0) hx hb hr rfl (fun zt ht hW => ⟨⟨_, ki, rfl, Or.inr ⟨rfl, (fun h => by exact absurd h.1 (by omega)), rfl⟩, ⟨by rw [ht]; exact hP.sub [0, 1] rfl, hD.sub [0, 1] (by decide) rfl⟩⟩, hS.F ht⟩) hS.2.2 dX4_kind_29
  ·
    have c_4 := (mt (nI_ltI (a := 0) (b := n) (by omega) (by omega)).mpr c_4)
    refine lv_iload_n hx hb dX4_kind_7 rfl (lv_at hl 1 rfl) ?_
    refine lv_if_lt (tgt := 28) hx hb dX4_kind_8 (by decide) (fun c_8 => ?_) (fun c_8 => ?_)
    ·
      refine lv_iconst (v := nI 0) hx hb dX4_kind_28 (by decide) ?_
      exact W.zret (v := nI 0) hx hb hr rfl (fun zt ht hW => ⟨⟨_, ki, rfl, Or.inr ⟨rfl, (fun h => by exact absurd c_8 (Int32.not_lt.mpr h.2.1.1)), rfl⟩, ⟨by rw [ht]; exact hP.sub [0, 1] rfl, hD.sub [0, 1] (by decide) rfl⟩⟩, hS.F ht⟩) hS.2.2 dX4_kind_29
    ·
      refine lv_iload_n hx hb dX4_kind_11 rfl (lv_at hl 1 rfl) ?_
      refine lv_bipush (v := nI 20) hx hb dX4_kind_12 (by decide) ?_
      refine lv_icmp_ge (tgt := 28) hx hb dX4_kind_14 (by decide) (fun c_14 => ?_) (fun c_14 => ?_)
      ·
        refine lv_iconst (v := nI 0) hx hb dX4_kind_28 (by decide) ?_
        exact W.zret (v := nI 0) hx hb hr rfl (fun zt ht hW => ⟨⟨_, ki, rfl, Or.inr ⟨rfl, (fun h => by exact absurd h.2.1.2 (Int32.not_lt.mpr c_14)), rfl⟩, ⟨by rw [ht]; exact hP.sub [0, 1] rfl, hD.sub [0, 1] (by decide) rfl⟩⟩, hS.F ht⟩) hS.2.2 dX4_kind_29
      ·
        refine lv_iload_n hx hb dX4_kind_17 rfl (lv_at hl 2 rfl) ?_
        refine lv_iconst (v := (-1)) hx hb dX4_kind_18 (by decide) ?_
        refine lv_icmp_lt (tgt := 28) hx hb dX4_kind_19 (by decide) (fun c_19 => ?_) (fun c_19 => ?_)
        ·
          refine lv_iconst (v := nI 0) hx hb dX4_kind_28 (by decide) ?_
          exact W.zret (v := nI 0) hx hb hr rfl (fun zt ht hW => ⟨⟨_, ki, rfl, Or.inr ⟨rfl, (fun h => by exact absurd c_19 (Int32.not_lt.mpr h.2.2.1)), rfl⟩, ⟨by rw [ht]; exact hP.sub [0, 1] rfl, hD.sub [0, 1] (by decide) rfl⟩⟩, hS.F ht⟩) hS.2.2 dX4_kind_29
        ·
          refine lv_iload_n hx hb dX4_kind_22 rfl (lv_at hl 2 rfl) ?_
          refine lv_bipush (v := nI 99) hx hb dX4_kind_23 (by decide) ?_
          refine lv_icmp_le (tgt := 30) hx hb dX4_kind_25 (by decide) (fun c_25 => ?_) (fun c_25 => ?_)
          ·
            obtain ⟨x0, hx0, rfl⟩ := es_nat (Int32.not_lt.mp c_8) (Int32.not_le.mp c_14) (by decide)
            refine lv_aload_n hx hb dX4_kind_30 rfl (lv_at hl 0 rfl) ?_
            refine va_get (D := D) (ci := 4) (v := .ref mk) (C := RX4) (T := TX4) (N := 21) hx hb hw iwX4 hown hK.1 hP 0 rfl rfl 1 (by decide) (hw _ xw_293) (fun _ h9 => h9) rfl dX4_kind_31 ?_
            refine lv_iload_n hx hb dX4_kind_34 rfl (lv_at hl 1 rfl) ?_
            refine lv_iload_n hx hb dX4_kind_35 rfl (lv_at hl 2 rfl) ?_
            refine es_iast hx hb hK.1 hP hD hS 1 0 rfl rfl (by omega) (Nat.le_of_ble_eq_true rfl) dX4_kind_36 (fun H locs hP hD hS => ?_)
            have hP : va_P D vwCl [(mo, .inr (4, [.ref ma, .ref mk, .ref mtx, .int (nI n), .int (nI tn), .ref m0, .ref m1, .ref m2, .ref m3, .int fl, .int fk, .int ot, .ref mb, .int of_, .int os_, .int (nI rd), .int (nI sc), .int (nI ed), .int ts, .int tkd, .int tl])), (mk, .inl (cI, 20, .inl (upd ki x0 y)))] H := hP
            have hD : va_D A [(mo, .inr (4, [.ref ma, .ref mk, .ref mtx, .int (nI n), .int (nI tn), .ref m0, .ref m1, .ref m2, .ref m3, .int fl, .int fk, .int ot, .ref mb, .int of_, .int os_, .int (nI rd), .int (nI sc), .int (nI ed), .int ts, .int tkd, .int tl])), (mk, .inl (cI, 20, .inl (upd ki x0 y)))] := hD
            refine lv_iconst (v := nI 1) hx hb dX4_kind_37 (by decide) ?_
            exact W.zret (v := nI 1) hx hb hr rfl (fun zt ht hW => ⟨⟨_, (upd ki x0 y), rfl, Or.inl ⟨rfl, ⟨by omega, ⟨Int32.not_lt.mp c_8, Int32.not_le.mp c_14⟩, Int32.not_lt.mp c_19, es_y99.mp c_25⟩, (by rw [nI_clamp (by omega)])⟩, ⟨by rw [ht]; exact hP.sub [0, 1] rfl, hD.sub [0, 1] (by decide) rfl⟩⟩, hS.F ht⟩) hS.2.2 dX4_kind_38
          ·
            refine lv_iconst (v := nI 0) hx hb dX4_kind_28 (by decide) ?_
            exact W.zret (v := nI 0) hx hb hr rfl (fun zt ht hW => ⟨⟨_, ki, rfl, Or.inr ⟨rfl, (fun h => by exact c_25 (es_y99.mpr h.2.2.2)), rfl⟩, ⟨by rw [ht]; exact hP.sub [0, 1] rfl, hD.sub [0, 1] (by decide) rfl⟩⟩, hS.F ht⟩) hS.2.2 dX4_kind_29
set_option maxHeartbeats 1000000 in
set_option maxRecDepth 100000 in
/-- X4.token  -/
theorem c_X4_token (l : Launch) (D : va_G) (cI : ClassId) (mo : Nat) (ma : Nat) (mk : Nat) (mtx : Nat) (m0 : Nat) (m1 : Nat) (m2 : Nat) (m3 : Nat) (mb : Nat) (M : Nat → Nat → Int32) (n : Nat) (tn : Nat) (fl : Int32) (fk : Int32) (ot : Int32) (of_ : Int32) (os_ : Int32) (rd : Nat) (sc : Nat) (ed : Nat) (ts : Int32) (tkd : Int32) (tl : Int32) (x : Int32) (y : Int32) (htn : tn ≤ 400) : Met l yX4_token (Cond.code yX4_token cX4_token 3 (some .int) :: es_T) { frames := 0, cells := 0, slots := 0, locals := 0 } (va_Pc [.ref mo, .int x, .int y] (es_R D cI [(mo, .inr (4, [.ref ma, .ref mk, .ref mtx, .int (nI n), .int (nI tn), .ref m0, .ref m1, .ref m2, .ref m3, .int fl, .int fk, .int ot, .ref mb, .int of_, .int os_, .int (nI rd), .int (nI sc), .int (nI ed), .int ts, .int tkd, .int tl])), (m0, .inl (cI, 400, .inl (M 0))), (m1, .inl (cI, 400, .inl (M 1))), (m2, .inl (cI, 400, .inl (M 2))), (m3, .inl (cI, 400, .inl (M 3)))])) (vp_Si (fun r => r = if 0 ≤ x ∧ x < nI tn then es_tw M y x else -1)) 0 0 (fun _ => False) := by
  refine Met.ofW (cc := cX4_token) (maxL := 3) (ret := (some .int)) (by decide) rfl ?_
  intro p e s m args below meth c s₁ B hml hv
  obtain ⟨rfl, hP, hK⟩ := hv
  have hx := B.exec
  have hb := B.bytes
  have hr := B.returns
  have hts := atoms_spec (ws := (Cond.code yX4_token cX4_token 3 (some .int) :: es_T)) B.pre
  have hw : ∀ w ∈ es_T, w.before _ s = true := fun w h => hts w (List.mem_cons_of_mem _ h)
  have hown : s.vm.findClass RX4 = some m.cls := findClass_of_methodNamed B.named
  have hlocks := B.notSynchronized
  have hRm : 0 ≤ (headSpec (Cond.code yX4_token cX4_token 3 (some .int) :: es_T) { frames := 0, cells := 0, slots := 0, locals := 0 }).room.frames ∧ 0 ≤ (headSpec (Cond.code yX4_token cX4_token 3 (some .int) :: es_T) { frames := 0, cells := 0, slots := 0, locals := 0 }).room.locals := ⟨Nat.le_refl _, Nat.le_refl _⟩
  have hRc : 0 ≤ (headSpec (Cond.code yX4_token cX4_token 3 (some .int) :: es_T) { frames := 0, cells := 0, slots := 0, locals := 0 }).room.cells ∧ 0 ≤ (headSpec (Cond.code yX4_token cX4_token 3 (some .int) :: es_T) { frames := 0, cells := 0, slots := 0, locals := 0 }).room.slots := ⟨Nat.le_refl _, Nat.le_refl _⟩
  have hl := lv_entry ([.ref mo, .int x, .int y]) (n := 3) (Nat.le_of_ble_eq_true rfl)
  rw [lg_entry_eq]
  generalize (lg_sl ([.ref mo, .int x, .int y]) ++ List.replicate (3 - (lg_sl ([.ref mo, .int x, .int y])).length) Slot.unset).toArray = ls at hl ⊢
  have hl : lv_has ls 3 [(0, .ref mo), (1, .int x), (2, .int y)] := hl
  refine lv_iload_n hx hb dX4_token_0 rfl (lv_at hl 1 rfl) ?_
  refine lv_if_lt (tgt := 12) hx hb dX4_token_1 (by decide) (fun c_1 => ?_) (fun c_1 => ?_)
  ·
    refine lv_iconst (v := (-1)) hx hb dX4_token_12 (by decide) ?_
    exact W.iret (v := (-1)) hx hb hr (fun zt ht hW => ⟨_, rfl, (by show _ = _; first | (rw [if_neg (fun h => absurd c_1 (Int32.not_lt.mpr h.1))]; done) | (rw [if_neg (fun h => c_9 h.2)]; done)), ht⟩) (fun _ h => by cases h) dX4_token_13
  ·
    refine lv_iload_n hx hb dX4_token_4 rfl (lv_at hl 1 rfl) ?_
    refine lv_aload_n hx hb dX4_token_5 rfl (lv_at hl 0 rfl) ?_
    refine va_get (D := D) (ci := 4) (v := .int (nI tn)) (C := RX4) (T := TX4) (N := 21) hx hb hw iwX4 hown hK.1 hP 0 rfl rfl 4 (by decide) (hw _ xw_268) (fun _ h9 => h9) rfl dX4_token_6 ?_
    refine lv_icmp_lt (tgt := 14) hx hb dX4_token_9 (by decide) (fun c_9 => ?_) (fun c_9 => ?_)
    ·
      refine lv_iload_n hx hb dX4_token_14 rfl (lv_at hl 2 rfl) ?_
      refine lv_if_ne (tgt := 27) hx hb dX4_token_15 (by decide) (fun c_15 => ?_) (fun c_15 => ?_)
      ·
        refine lv_iload_n hx hb dX4_token_27 rfl (lv_at hl 2 rfl) ?_
        refine lv_iconst (v := nI 1) hx hb dX4_token_28 (by decide) ?_
        refine lv_icmp_ne (tgt := 41) hx hb dX4_token_29 (by decide) (fun c_29 => ?_) (fun c_29 => ?_)
        ·
          refine lv_iload_n hx hb dX4_token_41 rfl (lv_at hl 2 rfl) ?_
          refine lv_iconst (v := nI 2) hx hb dX4_token_42 (by decide) ?_
          refine lv_icmp_ne (tgt := 55) hx hb dX4_token_43 (by decide) (fun c_43 => ?_) (fun c_43 => ?_)
          ·
            refine lv_iload_n hx hb dX4_token_55 rfl (lv_at hl 2 rfl) ?_
            refine lv_iconst (v := nI 3) hx hb dX4_token_56 (by decide) ?_
            refine lv_icmp_ne (tgt := 69) hx hb dX4_token_57 (by decide) (fun c_57 => ?_) (fun c_57 => ?_)
            ·
              refine lv_iconst (v := (-1)) hx hb dX4_token_69 (by decide) ?_
              exact W.iret (v := (-1)) hx hb hr (fun zt ht hW => ⟨_, rfl, (by show _ = _; rw [if_pos ⟨Int32.not_lt.mp c_1, c_9⟩]; unfold es_tw; first | (rw [if_pos c_15]; done) | (rw [if_neg c_15, if_pos (show y = 1 from c_29)]; done) | (rw [if_neg c_15, if_neg (show ¬ y = 1 from c_29), if_pos (show y = 2 from c_43)]; done) | (rw [if_neg c_15, if_neg (show ¬ y = 1 from c_29), if_neg (show ¬ y = 2 from c_43), if_pos (show y = 3 from c_57)]; done) | (rw [if_neg c_15, if_neg (show ¬ y = 1 from c_29), if_neg (show ¬ y = 2 from c_43), if_neg (show ¬ y = 3 from c_57)]; done)), ht⟩) (fun _ h => by cases h) dX4_token_70
            ·
              refine lv_aload_n hx hb dX4_token_60 rfl (lv_at hl 0 rfl) ?_
              refine va_get (D := D) (ci := 4) (v := .ref m3) (C := RX4) (T := TX4) (N := 21) hx hb hw iwX4 hown hK.1 hP 0 rfl rfl 8 (by decide) (hw _ xw_280) (fun _ h9 => h9) rfl dX4_token_61 ?_
              refine lv_iload_n hx hb dX4_token_64 rfl (lv_at hl 1 rfl) ?_
              refine va_iald hx hb hK.1 hP 4 0 rfl rfl (es_vin ⟨Int32.not_lt.mp c_1, c_9⟩ htn (by decide)) dX4_token_65 ?_
              refine lv_goto (tgt := 70) hx hb dX4_token_66 (by decide) ?_
              exact W.iret (v := (M 3) (x).toNatClampNeg) hx hb hr (fun zt ht hW => ⟨_, rfl, (by show _ = _; rw [if_pos ⟨Int32.not_lt.mp c_1, c_9⟩]; unfold es_tw; first | (rw [if_pos c_15]; done) | (rw [if_neg c_15, if_pos (show y = 1 from c_29)]; done) | (rw [if_neg c_15, if_neg (show ¬ y = 1 from c_29), if_pos (show y = 2 from c_43)]; done) | (rw [if_neg c_15, if_neg (show ¬ y = 1 from c_29), if_neg (show ¬ y = 2 from c_43), if_pos (show y = 3 from c_57)]; done) | (rw [if_neg c_15, if_neg (show ¬ y = 1 from c_29), if_neg (show ¬ y = 2 from c_43), if_neg (show ¬ y = 3 from c_57)]; done)), ht⟩) (fun _ h => by cases h) dX4_token_70
          ·
            refine lv_aload_n hx hb dX4_token_46 rfl (lv_at hl 0 rfl) ?_
            refine va_get (D := D) (ci := 4) (v := .ref m2) (C := RX4) (T := TX4) (N := 21) hx hb hw iwX4 hown hK.1 hP 0 rfl rfl 7 (by decide) (hw _ xw_306) (fun _ h9 => h9) rfl dX4_token_47 ?_
            refine lv_iload_n hx hb dX4_token_50 rfl (lv_at hl 1 rfl) ?_
            refine va_iald hx hb hK.1 hP 3 0 rfl rfl (es_vin ⟨Int32.not_lt.mp c_1, c_9⟩ htn (by decide)) dX4_token_51 ?_
            refine lv_goto (tgt := 70) hx hb dX4_token_52 (by decide) ?_
            exact W.iret (v := (M 2) (x).toNatClampNeg) hx hb hr (fun zt ht hW => ⟨_, rfl, (by show _ = _; rw [if_pos ⟨Int32.not_lt.mp c_1, c_9⟩]; unfold es_tw; first | (rw [if_pos c_15]; done) | (rw [if_neg c_15, if_pos (show y = 1 from c_29)]; done) | (rw [if_neg c_15, if_neg (show ¬ y = 1 from c_29), if_pos (show y = 2 from c_43)]; done) | (rw [if_neg c_15, if_neg (show ¬ y = 1 from c_29), if_neg (show ¬ y = 2 from c_43), if_pos (show y = 3 from c_57)]; done) | (rw [if_neg c_15, if_neg (show ¬ y = 1 from c_29), if_neg (show ¬ y = 2 from c_43), if_neg (show ¬ y = 3 from c_57)]; done)), ht⟩) (fun _ h => by cases h) dX4_token_70
        ·
          refine lv_aload_n hx hb dX4_token_32 rfl (lv_at hl 0 rfl) ?_
          refine va_get (D := D) (ci := 4) (v := .ref m1) (C := RX4) (T := TX4) (N := 21) hx hb hw iwX4 hown hK.1 hP 0 rfl rfl 6 (by decide) (hw _ xw_305) (fun _ h9 => h9) rfl dX4_token_33 ?_
          refine lv_iload_n hx hb dX4_token_36 rfl (lv_at hl 1 rfl) ?_
          refine va_iald hx hb hK.1 hP 2 0 rfl rfl (es_vin ⟨Int32.not_lt.mp c_1, c_9⟩ htn (by decide)) dX4_token_37 ?_
          refine lv_goto (tgt := 70) hx hb dX4_token_38 (by decide) ?_
          exact W.iret (v := (M 1) (x).toNatClampNeg) hx hb hr (fun zt ht hW => ⟨_, rfl, (by show _ = _; rw [if_pos ⟨Int32.not_lt.mp c_1, c_9⟩]; unfold es_tw; first | (rw [if_pos c_15]; done) | (rw [if_neg c_15, if_pos (show y = 1 from c_29)]; done) | (rw [if_neg c_15, if_neg (show ¬ y = 1 from c_29), if_pos (show y = 2 from c_43)]; done) | (rw [if_neg c_15, if_neg (show ¬ y = 1 from c_29), if_neg (show ¬ y = 2 from c_43), if_pos (show y = 3 from c_57)]; done) | (rw [if_neg c_15, if_neg (show ¬ y = 1 from c_29), if_neg (show ¬ y = 2 from c_43), if_neg (show ¬ y = 3 from c_57)]; done)), ht⟩) (fun _ h => by cases h) dX4_token_70
      ·
        refine lv_aload_n hx hb dX4_token_18 rfl (lv_at hl 0 rfl) ?_
        refine va_get (D := D) (ci := 4) (v := .ref m0) (C := RX4) (T := TX4) (N := 21) hx hb hw iwX4 hown hK.1 hP 0 rfl rfl 5 (by decide) (hw _ xw_279) (fun _ h9 => h9) rfl dX4_token_19 ?_
        refine lv_iload_n hx hb dX4_token_22 rfl (lv_at hl 1 rfl) ?_
        refine va_iald hx hb hK.1 hP 1 0 rfl rfl (es_vin ⟨Int32.not_lt.mp c_1, c_9⟩ htn (by decide)) dX4_token_23 ?_
        refine lv_goto (tgt := 70) hx hb dX4_token_24 (by decide) ?_
        exact W.iret (v := (M 0) (x).toNatClampNeg) hx hb hr (fun zt ht hW => ⟨_, rfl, (by show _ = _; rw [if_pos ⟨Int32.not_lt.mp c_1, c_9⟩]; unfold es_tw; first | (rw [if_pos c_15]; done) | (rw [if_neg c_15, if_pos (show y = 1 from c_29)]; done) | (rw [if_neg c_15, if_neg (show ¬ y = 1 from c_29), if_pos (show y = 2 from c_43)]; done) | (rw [if_neg c_15, if_neg (show ¬ y = 1 from c_29), if_neg (show ¬ y = 2 from c_43), if_pos (show y = 3 from c_57)]; done) | (rw [if_neg c_15, if_neg (show ¬ y = 1 from c_29), if_neg (show ¬ y = 2 from c_43), if_neg (show ¬ y = 3 from c_57)]; done)), ht⟩) (fun _ h => by cases h) dX4_token_70
    ·
      refine lv_iconst (v := (-1)) hx hb dX4_token_12 (by decide) ?_
      exact W.iret (v := (-1)) hx hb hr (fun zt ht hW => ⟨_, rfl, (by show _ = _; first | (rw [if_neg (fun h => absurd c_1 (Int32.not_lt.mpr h.1))]; done) | (rw [if_neg (fun h => c_9 h.2)]; done)), ht⟩) (fun _ h => by cases h) dX4_token_13
set_option maxHeartbeats 1000000 in
set_option maxRecDepth 100000 in
theorem lp_mTokenAt {p : Program} {l : Launch} {e : Env} {R : Room} {s : State} {m : MethodId} {args : Array Value} {below : List Frame} {meth : Method} {c : Code} {Q : State → Prop} {H : Heap} {locs : List Loc} (D : va_G) (cI : ClassId) (mo : Nat) (ma : Nat) (mk : Nat) (mtx : Nat) (m0 : Nat) (m1 : Nat) (m2 : Nat) (m3 : Nat) (mb : Nat) (M : Nat → Nat → Int32) (n : Nat) (tn : Nat) (fl : Int32) (fk : Int32) (ot : Int32) (of_ : Int32) (os_ : Int32) (rd : Nat) (sc : Nat) (ed : Nat) (ts : Int32) (tkd : Int32) (tl : Int32) (x : Int32) (hx : p.tables.exec = Jvm.exec) (hb : c.code = cX4_tokenAt) (hml : c.maxLocals = 4) (hown : s.vm.findClass RX4 = some m.cls) (hw : ∀ w ∈ es_T, w.before args s = true) (hK : es_K D cI s) (hRm : 0 ≤ R.frames ∧ 0 ≤ R.locals) (hP : va_P D vwCl [(mo, .inr (4, [.ref ma, .ref mk, .ref mtx, .int (nI n), .int (nI tn), .ref m0, .ref m1, .ref m2, .ref m3, .int fl, .int fk, .int ot, .ref mb, .int of_, .int os_, .int (nI rd), .int (nI sc), .int (nI ed), .int ts, .int tkd, .int tl])), (m0, .inl (cI, 400, .inl (M 0))), (m1, .inl (cI, 400, .inl (M 1))), (m2, .inl (cI, 400, .inl (M 2))), (m3, .inl (cI, 400, .inl (M 3)))] H) (htn : tn ≤ 400) (hex : ∀ (fd : Int32), ((fd = -1 ∧ ∀ j, j < tn → ¬ (M 0 j ≤ x ∧ x < M 0 j + M 1 j)) ∨ (∃ w : Nat, w < tn ∧ fd = nI w ∧ (M 0 w ≤ x ∧ x < M 0 w + M 1 w) ∧ ∀ j, w < j → j < tn → ¬ (M 0 j ≤ x ∧ x < M 0 j + M 1 j))) → ∀ (ls : Array Slot), lv_has ls 4 [(2, .int fd)] →  W p l e R s m args below meth c H locs 0 0 Q (F0 m 51 ls [])) : ∀ (N : Nat) (i : Nat) (fd : Int32), (i ≤ tn) → ((fd = -1 ∧ ∀ j, j < i → ¬ (M 0 j ≤ x ∧ x < M 0 j + M 1 j)) ∨ (∃ w : Nat, w < i ∧ fd = nI w ∧ (M 0 w ≤ x ∧ x < M 0 w + M 1 w) ∧ ∀ j, w < j → j < i → ¬ (M 0 j ≤ x ∧ x < M 0 j + M 1 j))) → (tn - i) < N → ∀ (ls : Array Slot), lv_has ls 4 [(0, .ref mo), (1, .int x), (2, .int fd), (3, .int (nI i))] →  W p l e R s m args below meth c H locs 0 0 Q (F0 m 4 ls []) := by
  intro N
  induction N with
  | zero =>
    intro i fd hi hf hN
    exact absurd hN (Nat.not_lt_zero _)
  | succ N ih =>
    intro i fd hi hf hN ls hl
    refine lv_iload_n hx hb dX4_tokenAt_4 rfl (lv_at hl 3 rfl) ?_
    refine lv_aload_n hx hb dX4_tokenAt_5 rfl (lv_at hl 0 rfl) ?_
    refine va_get (D := D) (ci := 4) (v := .int (nI tn)) (C := RX4) (T := TX4) (N := 21) hx hb hw iwX4 hown hK.1 hP 0 rfl rfl 4 (by decide) (hw _ xw_268) (fun _ h9 => h9) rfl dX4_tokenAt_6 ?_
    refine lv_icmp_ge (tgt := 51) hx hb dX4_tokenAt_9 (by decide) (fun c_9 => ?_) (fun c_9 => ?_)
    ·
      have c_9 := (nI_leI (by omega) (by omega)).mp c_9
      exact hex fd (by rw [show tn = i by omega]; exact hf)  ls (lv_sub hl [2] rfl)
    ·
      have c_9 := (mt (nI_leI (by omega) (by omega)).mpr c_9)
      refine lv_iload_n hx hb dX4_tokenAt_12 rfl (lv_at hl 1 rfl) ?_
      refine lv_aload_n hx hb dX4_tokenAt_13 rfl (lv_at hl 0 rfl) ?_
      refine va_get (D := D) (ci := 4) (v := .ref m0) (C := RX4) (T := TX4) (N := 21) hx hb hw iwX4 hown hK.1 hP 0 rfl rfl 5 (by decide) (hw _ xw_279) (fun _ h9 => h9) rfl dX4_tokenAt_14 ?_
      refine lv_iload_n hx hb dX4_tokenAt_17 rfl (lv_at hl 3 rfl) ?_
      refine es_iald hx hb hK.1 hP 1 0 rfl rfl (by omega) (Nat.le_of_ble_eq_true rfl) dX4_tokenAt_18 ?_
      refine lv_icmp_lt (tgt := 43) hx hb dX4_tokenAt_19 (by decide) (fun c_19 => ?_) (fun c_19 => ?_)
      ·
        refine lv_iload_n hx hb dX4_tokenAt_43 rfl (lv_at hl 2 rfl) ?_
        refine lv_istore_n (lv' := [(2, .int fd), (0, .ref mo), (1, .int x), (3, .int (nI i))]) hx hb dX4_tokenAt_44 rfl hl (by decide) rfl (fun ls hl => ?_)
        refine lv_iinc (v := nI (i + 1)) (lv' := [(3, .int (nI (i + 1))), (2, .int fd), (0, .ref mo), (1, .int x)]) hx hb dX4_tokenAt_45 hl (k := 3) rfl (nI_1 _) (by decide) rfl (fun ls hl => ?_)
        refine lv_goto (tgt := 4) hx hb dX4_tokenAt_48 (by decide) ?_
        exact ih (i + 1) fd (by first | assumption | omega) (by first | exact es_ta_y hf ⟨Int32.not_lt.mp c_19, Int32.not_le.mp c_36⟩ | exact es_ta_n hf (fun h => absurd c_19 (Int32.not_lt.mpr h.1)) | exact es_ta_n hf (fun h => absurd h.2 (Int32.not_lt.mpr c_36))) (by omega) ls (lv_sub hl [2, 3, 1, 0] rfl)
      ·
        refine lv_iload_n hx hb dX4_tokenAt_22 rfl (lv_at hl 1 rfl) ?_
        refine lv_aload_n hx hb dX4_tokenAt_23 rfl (lv_at hl 0 rfl) ?_
        refine va_get (D := D) (ci := 4) (v := .ref m0) (C := RX4) (T := TX4) (N := 21) hx hb hw iwX4 hown hK.1 hP 0 rfl rfl 5 (by decide) (hw _ xw_279) (fun _ h9 => h9) rfl dX4_tokenAt_24 ?_
        refine lv_iload_n hx hb dX4_tokenAt_27 rfl (lv_at hl 3 rfl) ?_
        refine es_iald hx hb hK.1 hP 1 0 rfl rfl (by omega) (Nat.le_of_ble_eq_true rfl) dX4_tokenAt_28 ?_
        refine lv_aload_n hx hb dX4_tokenAt_29 rfl (lv_at hl 0 rfl) ?_
        refine va_get (D := D) (ci := 4) (v := .ref m1) (C := RX4) (T := TX4) (N := 21) hx hb hw iwX4 hown hK.1 hP 0 rfl rfl 6 (by decide) (hw _ xw_305) (fun _ h9 => h9) rfl dX4_tokenAt_30 ?_
        refine lv_iload_n hx hb dX4_tokenAt_33 rfl (lv_at hl 3 rfl) ?_
        refine es_iald hx hb hK.1 hP 2 0 rfl rfl (by omega) (Nat.le_of_ble_eq_true rfl) dX4_tokenAt_34 ?_
        refine lv_iadd hx hb dX4_tokenAt_35 ?_
        refine lv_icmp_ge (tgt := 43) hx hb dX4_tokenAt_36 (by decide) (fun c_36 => ?_) (fun c_36 => ?_)
        ·
          refine lv_iload_n hx hb dX4_tokenAt_43 rfl (lv_at hl 2 rfl) ?_
          refine lv_istore_n (lv' := [(2, .int fd), (0, .ref mo), (1, .int x), (3, .int (nI i))]) hx hb dX4_tokenAt_44 rfl hl (by decide) rfl (fun ls hl => ?_)
          refine lv_iinc (v := nI (i + 1)) (lv' := [(3, .int (nI (i + 1))), (2, .int fd), (0, .ref mo), (1, .int x)]) hx hb dX4_tokenAt_45 hl (k := 3) rfl (nI_1 _) (by decide) rfl (fun ls hl => ?_)
          refine lv_goto (tgt := 4) hx hb dX4_tokenAt_48 (by decide) ?_
          exact ih (i + 1) fd (by first | assumption | omega) (by first | exact es_ta_y hf ⟨Int32.not_lt.mp c_19, Int32.not_le.mp c_36⟩ | exact es_ta_n hf (fun h => absurd c_19 (Int32.not_lt.mpr h.1)) | exact es_ta_n hf (fun h => absurd h.2 (Int32.not_lt.mpr c_36))) (by omega) ls (lv_sub hl [2, 3, 1, 0] rfl)
        ·
          refine lv_iload_n hx hb dX4_tokenAt_39 rfl (lv_at hl 3 rfl) ?_
          refine lv_goto (tgt := 44) hx hb dX4_tokenAt_40 (by decide) ?_
          refine lv_istore_n (lv' := [(2, .int (nI i)), (0, .ref mo), (1, .int x), (3, .int (nI i))]) hx hb dX4_tokenAt_44 rfl hl (by decide) rfl (fun ls hl => ?_)
          refine lv_iinc (v := nI (i + 1)) (lv' := [(3, .int (nI (i + 1))), (2, .int (nI i)), (0, .ref mo), (1, .int x)]) hx hb dX4_tokenAt_45 hl (k := 3) rfl (nI_1 _) (by decide) rfl (fun ls hl => ?_)
          refine lv_goto (tgt := 4) hx hb dX4_tokenAt_48 (by decide) ?_
          exact ih (i + 1) (nI i) (by first | assumption | omega) (by first | exact es_ta_y hf ⟨Int32.not_lt.mp c_19, Int32.not_le.mp c_36⟩ | exact es_ta_n hf (fun h => absurd c_19 (Int32.not_lt.mpr h.1)) | exact es_ta_n hf (fun h => absurd h.2 (Int32.not_lt.mpr c_36))) (by omega) ls (lv_sub hl [2, 3, 1, 0] rfl)
set_option maxHeartbeats 1000000 in
set_option maxRecDepth 100000 in
/-- X4.tokenAt  -/
theorem c_X4_tokenAt (l : Launch) (D : va_G) (cI : ClassId) (mo : Nat) (ma : Nat) (mk : Nat) (mtx : Nat) (m0 : Nat) (m1 : Nat) (m2 : Nat) (m3 : Nat) (mb : Nat) (M : Nat → Nat → Int32) (n : Nat) (tn : Nat) (fl : Int32) (fk : Int32) (ot : Int32) (of_ : Int32) (os_ : Int32) (rd : Nat) (sc : Nat) (ed : Nat) (ts : Int32) (tkd : Int32) (tl : Int32) (x : Int32) (htn : tn ≤ 400) : Met l yX4_tokenAt (Cond.code yX4_tokenAt cX4_tokenAt 4 (some .int) :: es_T) { frames := 0, cells := 0, slots := 0, locals := 0 } (va_Pc [.ref mo, .int x] (es_R D cI [(mo, .inr (4, [.ref ma, .ref mk, .ref mtx, .int (nI n), .int (nI tn), .ref m0, .ref m1, .ref m2, .ref m3, .int fl, .int fk, .int ot, .ref mb, .int of_, .int os_, .int (nI rd), .int (nI sc), .int (nI ed), .int ts, .int tkd, .int tl])), (m0, .inl (cI, 400, .inl (M 0))), (m1, .inl (cI, 400, .inl (M 1))), (m2, .inl (cI, 400, .inl (M 2))), (m3, .inl (cI, 400, .inl (M 3)))])) (vp_Si (fun q => (q = -1 ∧ ∀ j, j < tn → ¬ (M 0 j ≤ x ∧ x < M 0 j + M 1 j)) ∨ (∃ w : Nat, w < tn ∧ q = nI w ∧ (M 0 w ≤ x ∧ x < M 0 w + M 1 w) ∧ ∀ j, w < j → j < tn → ¬ (M 0 j ≤ x ∧ x < M 0 j + M 1 j)))) 0 0 (fun _ => False) := by
  refine Met.ofW (cc := cX4_tokenAt) (maxL := 4) (ret := (some .int)) (by decide) rfl ?_
  intro p e s m args below meth c s₁ B hml hv
  obtain ⟨rfl, hP, hK⟩ := hv
  have hx := B.exec
  have hb := B.bytes
  have hr := B.returns
  have hts := atoms_spec (ws := (Cond.code yX4_tokenAt cX4_tokenAt 4 (some .int) :: es_T)) B.pre
  have hw : ∀ w ∈ es_T, w.before _ s = true := fun w h => hts w (List.mem_cons_of_mem _ h)
  have hown : s.vm.findClass RX4 = some m.cls := findClass_of_methodNamed B.named
  have hlocks := B.notSynchronized
  have hRm : 0 ≤ (headSpec (Cond.code yX4_tokenAt cX4_tokenAt 4 (some .int) :: es_T) { frames := 0, cells := 0, slots := 0, locals := 0 }).room.frames ∧ 0 ≤ (headSpec (Cond.code yX4_tokenAt cX4_tokenAt 4 (some .int) :: es_T) { frames := 0, cells := 0, slots := 0, locals := 0 }).room.locals := ⟨Nat.le_refl _, Nat.le_refl _⟩
  have hRc : 0 ≤ (headSpec (Cond.code yX4_tokenAt cX4_tokenAt 4 (some .int) :: es_T) { frames := 0, cells := 0, slots := 0, locals := 0 }).room.cells ∧ 0 ≤ (headSpec (Cond.code yX4_tokenAt cX4_tokenAt 4 (some .int) :: es_T) { frames := 0, cells := 0, slots := 0, locals := 0 }).room.slots := ⟨Nat.le_refl _, Nat.le_refl _⟩
  have hl := lv_entry ([.ref mo, .int x]) (n := 4) (Nat.le_of_ble_eq_true rfl)
  rw [lg_entry_eq]
  generalize (lg_sl ([.ref mo, .int x]) ++ List.replicate (4 - (lg_sl ([.ref mo, .int x])).length) Slot.unset).toArray = ls at hl ⊢
  have hl : lv_has ls 4 [(0, .ref mo), (1, .int x)] := hl
  refine lv_iconst (v := (-1)) hx hb dX4_tokenAt_0 (by decide) ?_
  refine lv_istore_n (lv' := [(2, .int (-1)), (0, .ref mo), (1, .int x)]) hx hb dX4_tokenAt_1 rfl hl (by decide) rfl (fun ls hl => ?_)
  refine lv_iconst (v := nI 0) hx hb dX4_tokenAt_2 (by decide) ?_
  refine lv_istore_n (lv' := [(3, .int (nI 0)), (2, .int (-1)), (0, .ref mo), (1, .int x)]) hx hb dX4_tokenAt_3 rfl hl (by decide) rfl (fun ls hl => ?_)
  refine lp_mTokenAt D cI mo ma mk mtx m0 m1 m2 m3 mb M n tn fl fk ot of_ os_ rd sc ed ts tkd tl x hx hb hml hown hw hK ⟨Nat.le_trans (Nat.le_of_ble_eq_true rfl) hRm.1, Nat.le_trans (Nat.le_of_ble_eq_true rfl) hRm.2⟩ hP (by first | assumption | omega) (fun fd hf ls hl => ?_) ((tn - 0) + 1) 0 (-1) (Nat.zero_le _) (Or.inl ⟨rfl, fun j h => absurd h (Nat.not_lt_zero _)⟩) (Nat.lt_succ_self _) ls (lv_sub hl [2, 3, 1, 0] rfl)
  refine lv_iload_n hx hb dX4_tokenAt_51 rfl (lv_at hl 0 rfl) ?_
  exact W.iret (v := fd) hx hb hr (fun zt ht hW => ⟨_, rfl, hf, ht⟩) (fun _ h => by cases h) dX4_tokenAt_52
set_option maxHeartbeats 1000000 in
set_option maxRecDepth 100000 in
/-- X4.symbol  -/
theorem c_X4_symbol (l : Launch) (D : va_G) (cI : ClassId) (mo : Nat) (ma : Nat) (mk : Nat) (mtx : Nat) (m0 : Nat) (m1 : Nat) (m2 : Nat) (m3 : Nat) (mb : Nat) (mx : Nat → Int32) (n : Nat) (tn : Nat) (fl : Int32) (fk : Int32) (ot : Int32) (of_ : Int32) (os_ : Int32) (rd : Nat) (sc : Nat) (ed : Nat) (ts : Int32) (tkd : Int32) (tl : Int32) (x : Int32) (hn : n ≤ 400) : Met l yX4_symbol (Cond.code yX4_symbol cX4_symbol 2 (some .int) :: es_T) { frames := 0, cells := 0, slots := 0, locals := 0 } (va_Pc [.ref mo, .int x] (es_R D cI [(mo, .inr (4, [.ref ma, .ref mk, .ref mtx, .int (nI n), .int (nI tn), .ref m0, .ref m1, .ref m2, .ref m3, .int fl, .int fk, .int ot, .ref mb, .int of_, .int os_, .int (nI rd), .int (nI sc), .int (nI ed), .int ts, .int tkd, .int tl])), (mtx, .inl (cI, 400, .inl mx))])) (vp_Si (fun r => r = if 0 ≤ x ∧ x < nI n then mx x.toNatClampNeg else -1)) 0 0 (fun _ => False) := by
  refine Met.ofW (cc := cX4_symbol) (maxL := 2) (ret := (some .int)) (by decide) rfl ?_
  intro p e s m args below meth c s₁ B hml hv
  obtain ⟨rfl, hP, hK⟩ := hv
  have hx := B.exec
  have hb := B.bytes
  have hr := B.returns
  have hts := atoms_spec (ws := (Cond.code yX4_symbol cX4_symbol 2 (some .int) :: es_T)) B.pre
  have hw : ∀ w ∈ es_T, w.before _ s = true := fun w h => hts w (List.mem_cons_of_mem _ h)
  have hown : s.vm.findClass RX4 = some m.cls := findClass_of_methodNamed B.named
  have hlocks := B.notSynchronized
  have hRm : 0 ≤ (headSpec (Cond.code yX4_symbol cX4_symbol 2 (some .int) :: es_T) { frames := 0, cells := 0, slots := 0, locals := 0 }).room.frames ∧ 0 ≤ (headSpec (Cond.code yX4_symbol cX4_symbol 2 (some .int) :: es_T) { frames := 0, cells := 0, slots := 0, locals := 0 }).room.locals := ⟨Nat.le_refl _, Nat.le_refl _⟩
  have hRc : 0 ≤ (headSpec (Cond.code yX4_symbol cX4_symbol 2 (some .int) :: es_T) { frames := 0, cells := 0, slots := 0, locals := 0 }).room.cells ∧ 0 ≤ (headSpec (Cond.code yX4_symbol cX4_symbol 2 (some .int) :: es_T) { frames := 0, cells := 0, slots := 0, locals := 0 }).room.slots := ⟨Nat.le_refl _, Nat.le_refl _⟩
  have hl := lv_entry ([.ref mo, .int x]) (n := 2) (Nat.le_of_ble_eq_true rfl)
  rw [lg_entry_eq]
  generalize (lg_sl ([.ref mo, .int x]) ++ List.replicate (2 - (lg_sl ([.ref mo, .int x])).length) Slot.unset).toArray = ls at hl ⊢
  have hl : lv_has ls 2 [(0, .ref mo), (1, .int x)] := hl
  refine lv_iload_n hx hb dX4_symbol_0 rfl (lv_at hl 1 rfl) ?_
  refine lv_if_lt (tgt := 21) hx hb dX4_symbol_1 (by decide) (fun c_1 => ?_) (fun c_1 => ?_)
  ·
    refine lv_iconst (v := (-1)) hx hb dX4_symbol_21 (by decide) ?_
    exact W.iret (v := (-1)) hx hb hr (fun zt ht hW => ⟨_, rfl, (by show _ = _; first | (rw [if_pos ⟨Int32.not_lt.mp c_1, Int32.not_le.mp c_9⟩]; done) | (rw [if_neg (fun h => absurd c_1 (Int32.not_lt.mpr h.1))]; done) | (rw [if_neg (fun h => absurd h.2 (Int32.not_lt.mpr c_9))]; done)), ht⟩) (fun _ h => by cases h) dX4_symbol_22
  ·
    refine lv_iload_n hx hb dX4_symbol_4 rfl (lv_at hl 1 rfl) ?_
    refine lv_aload_n hx hb dX4_symbol_5 rfl (lv_at hl 0 rfl) ?_
    refine va_get (D := D) (ci := 4) (v := .int (nI n)) (C := RX4) (T := TX4) (N := 21) hx hb hw iwX4 hown hK.1 hP 0 rfl rfl 3 (by decide) (hw _ xw_260) (fun _ h9 => h9) rfl dX4_symbol_6 ?_
    refine lv_icmp_ge (tgt := 21) hx hb dX4_symbol_9 (by decide) (fun c_9 => ?_) (fun c_9 => ?_)
    ·
      refine lv_iconst (v := (-1)) hx hb dX4_symbol_21 (by decide) ?_
      exact W.iret (v := (-1)) hx hb hr (fun zt ht hW => ⟨_, rfl, (by show _ = _; first | (rw [if_pos ⟨Int32.not_lt.mp c_1, Int32.not_le.mp c_9⟩]; done) | (rw [if_neg (fun h => absurd c_1 (Int32.not_lt.mpr h.1))]; done) | (rw [if_neg (fun h => absurd h.2 (Int32.not_lt.mpr c_9))]; done)), ht⟩) (fun _ h => by cases h) dX4_symbol_22
    ·
      refine lv_aload_n hx hb dX4_symbol_12 rfl (lv_at hl 0 rfl) ?_
      refine va_get (D := D) (ci := 4) (v := .ref mtx) (C := RX4) (T := TX4) (N := 21) hx hb hw iwX4 hown hK.1 hP 0 rfl rfl 2 (by decide) (hw _ xw_266) (fun _ h9 => h9) rfl dX4_symbol_13 ?_
      refine lv_iload_n hx hb dX4_symbol_16 rfl (lv_at hl 1 rfl) ?_
      refine va_iald hx hb hK.1 hP 1 0 rfl rfl (es_vin ⟨Int32.not_lt.mp c_1, Int32.not_le.mp c_9⟩ hn (by decide)) dX4_symbol_17 ?_
      refine lv_goto (tgt := 22) hx hb dX4_symbol_18 (by decide) ?_
      exact W.iret (v := mx (x).toNatClampNeg) hx hb hr (fun zt ht hW => ⟨_, rfl, (by show _ = _; first | (rw [if_pos ⟨Int32.not_lt.mp c_1, Int32.not_le.mp c_9⟩]; done) | (rw [if_neg (fun h => absurd c_1 (Int32.not_lt.mpr h.1))]; done) | (rw [if_neg (fun h => absurd h.2 (Int32.not_lt.mpr c_9))]; done)), ht⟩) (fun _ h => by cases h) dX4_symbol_22
set_option maxHeartbeats 1000000 in
set_option maxRecDepth 100000 in
/-- X4.count  -/
theorem c_X4_count (l : Launch) (D : va_G) (cI : ClassId) (mo : Nat) (ma : Nat) (mk : Nat) (mtx : Nat) (m0 : Nat) (m1 : Nat) (m2 : Nat) (m3 : Nat) (mb : Nat) (n : Nat) (tn : Nat) (fl : Int32) (fk : Int32) (ot : Int32) (of_ : Int32) (os_ : Int32) (rd : Nat) (sc : Nat) (ed : Nat) (ts : Int32) (tkd : Int32) (tl : Int32) (x : Int32)  : Met l yX4_count (Cond.code yX4_count cX4_count 2 (some .int) :: es_T) { frames := 0, cells := 0, slots := 0, locals := 0 } (va_Pc [.ref mo, .int x] (es_R D cI [(mo, .inr (4, [.ref ma, .ref mk, .ref mtx, .int (nI n), .int (nI tn), .ref m0, .ref m1, .ref m2, .ref m3, .int fl, .int fk, .int ot, .ref mb, .int of_, .int os_, .int (nI rd), .int (nI sc), .int (nI ed), .int ts, .int tkd, .int tl]))])) (vp_Si (fun r => r = es_cm tn n fl fk rd sc ed x)) 0 0 (fun _ => False) := by
  refine Met.ofW (cc := cX4_count) (maxL := 2) (ret := (some .int)) (by decide) rfl ?_
  intro p e s m args below meth c s₁ B hml hv
  obtain ⟨rfl, hP, hK⟩ := hv
  have hx := B.exec
  have hb := B.bytes
  have hr := B.returns
  have hts := atoms_spec (ws := (Cond.code yX4_count cX4_count 2 (some .int) :: es_T)) B.pre
  have hw : ∀ w ∈ es_T, w.before _ s = true := fun w h => hts w (List.mem_cons_of_mem _ h)
  have hown : s.vm.findClass RX4 = some m.cls := findClass_of_methodNamed B.named
  have hlocks := B.notSynchronized
  have hRm : 0 ≤ (headSpec (Cond.code yX4_count cX4_count 2 (some .int) :: es_T) { frames := 0, cells := 0, slots := 0, locals := 0 }).room.frames ∧ 0 ≤ (headSpec (Cond.code yX4_count cX4_count 2 (some .int) :: es_T) { frames := 0, cells := 0, slots := 0, locals := 0 }).room.locals := ⟨Nat.le_refl _, Nat.le_refl _⟩
  have hRc : 0 ≤ (headSpec (Cond.code yX4_count cX4_count 2 (some .int) :: es_T) { frames := 0, cells := 0, slots := 0, locals := 0 }).room.cells ∧ 0 ≤ (headSpec (Cond.code yX4_count cX4_count 2 (some .int) :: es_T) { frames := 0, cells := 0, slots := 0, locals := 0 }).room.slots := ⟨Nat.le_refl _, Nat.le_refl _⟩
  have hl := lv_entry ([.ref mo, .int x]) (n := 2) (Nat.le_of_ble_eq_true rfl)
  rw [lg_entry_eq]
  generalize (lg_sl ([.ref mo, .int x]) ++ List.replicate (2 - (lg_sl ([.ref mo, .int x])).length) Slot.unset).toArray = ls at hl ⊢
  have hl : lv_has ls 2 [(0, .ref mo), (1, .int x)] := hl
  refine lv_iload_n hx hb dX4_count_0 rfl (lv_at hl 1 rfl) ?_
  refine lv_if_ne (tgt := 11) hx hb dX4_count_1 (by decide) (fun c_1 => ?_) (fun c_1 => ?_)
  ·
    refine lv_iload_n hx hb dX4_count_11 rfl (lv_at hl 1 rfl) ?_
    refine lv_iconst (v := nI 1) hx hb dX4_count_12 (by decide) ?_
    refine lv_icmp_ne (tgt := 23) hx hb dX4_count_13 (by decide) (fun c_13 => ?_) (fun c_13 => ?_)
    ·
      refine lv_iload_n hx hb dX4_count_23 rfl (lv_at hl 1 rfl) ?_
      refine lv_iconst (v := nI 2) hx hb dX4_count_24 (by decide) ?_
      refine lv_icmp_ne (tgt := 35) hx hb dX4_count_25 (by decide) (fun c_25 => ?_) (fun c_25 => ?_)
      ·
        refine lv_iload_n hx hb dX4_count_35 rfl (lv_at hl 1 rfl) ?_
        refine lv_iconst (v := nI 3) hx hb dX4_count_36 (by decide) ?_
        refine lv_icmp_ne (tgt := 47) hx hb dX4_count_37 (by decide) (fun c_37 => ?_) (fun c_37 => ?_)
        ·
          refine lv_iload_n hx hb dX4_count_47 rfl (lv_at hl 1 rfl) ?_
          refine lv_iconst (v := nI 4) hx hb dX4_count_48 (by decide) ?_
          refine lv_icmp_ne (tgt := 59) hx hb dX4_count_49 (by decide) (fun c_49 => ?_) (fun c_49 => ?_)
          ·
            refine lv_iload_n hx hb dX4_count_59 rfl (lv_at hl 1 rfl) ?_
            refine lv_iconst (v := nI 5) hx hb dX4_count_60 (by decide) ?_
            refine lv_icmp_ne (tgt := 71) hx hb dX4_count_61 (by decide) (fun c_61 => ?_) (fun c_61 => ?_)
            ·
              refine lv_iload_n hx hb dX4_count_71 rfl (lv_at hl 1 rfl) ?_
              refine lv_bipush (v := nI 6) hx hb dX4_count_72 (by decide) ?_
              refine lv_icmp_ne (tgt := 84) hx hb dX4_count_74 (by decide) (fun c_74 => ?_) (fun c_74 => ?_)
              ·
                refine lv_iconst (v := (-1)) hx hb dX4_count_84 (by decide) ?_
                exact W.iret (v := (-1)) hx hb hr (fun zt ht hW => ⟨_, rfl, (by show _ = _; unfold es_cm; first | (rw [if_pos (show x = 0 from c_1)]; done) | (rw [if_neg (show ¬ x = 0 from c_1), if_pos (show x = 1 from c_13)]; done) | (rw [if_neg (show ¬ x = 0 from c_1), if_neg (show ¬ x = 1 from c_13), if_pos (show x = 2 from c_25)]; done) | (rw [if_neg (show ¬ x = 0 from c_1), if_neg (show ¬ x = 1 from c_13), if_neg (show ¬ x = 2 from c_25), if_pos (show x = 3 from c_37)]; done) | (rw [if_neg (show ¬ x = 0 from c_1), if_neg (show ¬ x = 1 from c_13), if_neg (show ¬ x = 2 from c_25), if_neg (show ¬ x = 3 from c_37), if_pos (show x = 4 from c_49)]; done) | (rw [if_neg (show ¬ x = 0 from c_1), if_neg (show ¬ x = 1 from c_13), if_neg (show ¬ x = 2 from c_25), if_neg (show ¬ x = 3 from c_37), if_neg (show ¬ x = 4 from c_49), if_pos (show x = 5 from c_61)]; done) | (rw [if_neg (show ¬ x = 0 from c_1), if_neg (show ¬ x = 1 from c_13), if_neg (show ¬ x = 2 from c_25), if_neg (show ¬ x = 3 from c_37), if_neg (show ¬ x = 4 from c_49), if_neg (show ¬ x = 5 from c_61), if_pos (show x = 6 from c_74)]; done) | (rw [if_neg (show ¬ x = 0 from c_1), if_neg (show ¬ x = 1 from c_13), if_neg (show ¬ x = 2 from c_25), if_neg (show ¬ x = 3 from c_37), if_neg (show ¬ x = 4 from c_49), if_neg (show ¬ x = 5 from c_61), if_neg (show ¬ x = 6 from c_74)]; done)), ht⟩) (fun _ h => by cases h) dX4_count_85
              ·
                refine lv_aload_n hx hb dX4_count_77 rfl (lv_at hl 0 rfl) ?_
                refine va_get (D := D) (ci := 4) (v := .int (nI ed)) (C := RX4) (T := TX4) (N := 21) hx hb hw iwX4 hown hK.1 hP 0 rfl rfl 17 (by decide) (hw _ xw_277) (fun _ h9 => h9) rfl dX4_count_78 ?_
                refine lv_goto (tgt := 85) hx hb dX4_count_81 (by decide) ?_
                exact W.iret (v := nI ed) hx hb hr (fun zt ht hW => ⟨_, rfl, (by show _ = _; unfold es_cm; first | (rw [if_pos (show x = 0 from c_1)]; done) | (rw [if_neg (show ¬ x = 0 from c_1), if_pos (show x = 1 from c_13)]; done) | (rw [if_neg (show ¬ x = 0 from c_1), if_neg (show ¬ x = 1 from c_13), if_pos (show x = 2 from c_25)]; done) | (rw [if_neg (show ¬ x = 0 from c_1), if_neg (show ¬ x = 1 from c_13), if_neg (show ¬ x = 2 from c_25), if_pos (show x = 3 from c_37)]; done) | (rw [if_neg (show ¬ x = 0 from c_1), if_neg (show ¬ x = 1 from c_13), if_neg (show ¬ x = 2 from c_25), if_neg (show ¬ x = 3 from c_37), if_pos (show x = 4 from c_49)]; done) | (rw [if_neg (show ¬ x = 0 from c_1), if_neg (show ¬ x = 1 from c_13), if_neg (show ¬ x = 2 from c_25), if_neg (show ¬ x = 3 from c_37), if_neg (show ¬ x = 4 from c_49), if_pos (show x = 5 from c_61)]; done) | (rw [if_neg (show ¬ x = 0 from c_1), if_neg (show ¬ x = 1 from c_13), if_neg (show ¬ x = 2 from c_25), if_neg (show ¬ x = 3 from c_37), if_neg (show ¬ x = 4 from c_49), if_neg (show ¬ x = 5 from c_61), if_pos (show x = 6 from c_74)]; done) | (rw [if_neg (show ¬ x = 0 from c_1), if_neg (show ¬ x = 1 from c_13), if_neg (show ¬ x = 2 from c_25), if_neg (show ¬ x = 3 from c_37), if_neg (show ¬ x = 4 from c_49), if_neg (show ¬ x = 5 from c_61), if_neg (show ¬ x = 6 from c_74)]; done)), ht⟩) (fun _ h => by cases h) dX4_count_85
            ·
              refine lv_aload_n hx hb dX4_count_64 rfl (lv_at hl 0 rfl) ?_
              refine va_get (D := D) (ci := 4) (v := .int (nI sc)) (C := RX4) (T := TX4) (N := 21) hx hb hw iwX4 hown hK.1 hP 0 rfl rfl 16 (by decide) (hw _ xw_276) (fun _ h9 => h9) rfl dX4_count_65 ?_
              refine lv_goto (tgt := 85) hx hb dX4_count_68 (by decide) ?_
              exact W.iret (v := nI sc) hx hb hr (fun zt ht hW => ⟨_, rfl, (by show _ = _; unfold es_cm; first | (rw [if_pos (show x = 0 from c_1)]; done) | (rw [if_neg (show ¬ x = 0 from c_1), if_pos (show x = 1 from c_13)]; done) | (rw [if_neg (show ¬ x = 0 from c_1), if_neg (show ¬ x = 1 from c_13), if_pos (show x = 2 from c_25)]; done) | (rw [if_neg (show ¬ x = 0 from c_1), if_neg (show ¬ x = 1 from c_13), if_neg (show ¬ x = 2 from c_25), if_pos (show x = 3 from c_37)]; done) | (rw [if_neg (show ¬ x = 0 from c_1), if_neg (show ¬ x = 1 from c_13), if_neg (show ¬ x = 2 from c_25), if_neg (show ¬ x = 3 from c_37), if_pos (show x = 4 from c_49)]; done) | (rw [if_neg (show ¬ x = 0 from c_1), if_neg (show ¬ x = 1 from c_13), if_neg (show ¬ x = 2 from c_25), if_neg (show ¬ x = 3 from c_37), if_neg (show ¬ x = 4 from c_49), if_pos (show x = 5 from c_61)]; done) | (rw [if_neg (show ¬ x = 0 from c_1), if_neg (show ¬ x = 1 from c_13), if_neg (show ¬ x = 2 from c_25), if_neg (show ¬ x = 3 from c_37), if_neg (show ¬ x = 4 from c_49), if_neg (show ¬ x = 5 from c_61), if_pos (show x = 6 from c_74)]; done) | (rw [if_neg (show ¬ x = 0 from c_1), if_neg (show ¬ x = 1 from c_13), if_neg (show ¬ x = 2 from c_25), if_neg (show ¬ x = 3 from c_37), if_neg (show ¬ x = 4 from c_49), if_neg (show ¬ x = 5 from c_61), if_neg (show ¬ x = 6 from c_74)]; done)), ht⟩) (fun _ h => by cases h) dX4_count_85
          ·
            refine lv_aload_n hx hb dX4_count_52 rfl (lv_at hl 0 rfl) ?_
            refine va_get (D := D) (ci := 4) (v := .int (nI rd)) (C := RX4) (T := TX4) (N := 21) hx hb hw iwX4 hown hK.1 hP 0 rfl rfl 15 (by decide) (hw _ xw_275) (fun _ h9 => h9) rfl dX4_count_53 ?_
            refine lv_goto (tgt := 85) hx hb dX4_count_56 (by decide) ?_
            exact W.iret (v := nI rd) hx hb hr (fun zt ht hW => ⟨_, rfl, (by show _ = _; unfold es_cm; first | (rw [if_pos (show x = 0 from c_1)]; done) | (rw [if_neg (show ¬ x = 0 from c_1), if_pos (show x = 1 from c_13)]; done) | (rw [if_neg (show ¬ x = 0 from c_1), if_neg (show ¬ x = 1 from c_13), if_pos (show x = 2 from c_25)]; done) | (rw [if_neg (show ¬ x = 0 from c_1), if_neg (show ¬ x = 1 from c_13), if_neg (show ¬ x = 2 from c_25), if_pos (show x = 3 from c_37)]; done) | (rw [if_neg (show ¬ x = 0 from c_1), if_neg (show ¬ x = 1 from c_13), if_neg (show ¬ x = 2 from c_25), if_neg (show ¬ x = 3 from c_37), if_pos (show x = 4 from c_49)]; done) | (rw [if_neg (show ¬ x = 0 from c_1), if_neg (show ¬ x = 1 from c_13), if_neg (show ¬ x = 2 from c_25), if_neg (show ¬ x = 3 from c_37), if_neg (show ¬ x = 4 from c_49), if_pos (show x = 5 from c_61)]; done) | (rw [if_neg (show ¬ x = 0 from c_1), if_neg (show ¬ x = 1 from c_13), if_neg (show ¬ x = 2 from c_25), if_neg (show ¬ x = 3 from c_37), if_neg (show ¬ x = 4 from c_49), if_neg (show ¬ x = 5 from c_61), if_pos (show x = 6 from c_74)]; done) | (rw [if_neg (show ¬ x = 0 from c_1), if_neg (show ¬ x = 1 from c_13), if_neg (show ¬ x = 2 from c_25), if_neg (show ¬ x = 3 from c_37), if_neg (show ¬ x = 4 from c_49), if_neg (show ¬ x = 5 from c_61), if_neg (show ¬ x = 6 from c_74)]; done)), ht⟩) (fun _ h => by cases h) dX4_count_85
        ·
          refine lv_aload_n hx hb dX4_count_40 rfl (lv_at hl 0 rfl) ?_
          refine va_get (D := D) (ci := 4) (v := .int fk) (C := RX4) (T := TX4) (N := 21) hx hb hw iwX4 hown hK.1 hP 0 rfl rfl 10 (by decide) (hw _ xw_274) (fun _ h9 => h9) rfl dX4_count_41 ?_
          refine lv_goto (tgt := 85) hx hb dX4_count_44 (by decide) ?_
          exact W.iret (v := fk) hx hb hr (fun zt ht hW => ⟨_, rfl, (by show _ = _; unfold es_cm; first | (rw [if_pos (show x = 0 from c_1)]; done) | (rw [if_neg (show ¬ x = 0 from c_1), if_pos (show x = 1 from c_13)]; done) | (rw [if_neg (show ¬ x = 0 from c_1), if_neg (show ¬ x = 1 from c_13), if_pos (show x = 2 from c_25)]; done) | (rw [if_neg (show ¬ x = 0 from c_1), if_neg (show ¬ x = 1 from c_13), if_neg (show ¬ x = 2 from c_25), if_pos (show x = 3 from c_37)]; done) | (rw [if_neg (show ¬ x = 0 from c_1), if_neg (show ¬ x = 1 from c_13), if_neg (show ¬ x = 2 from c_25), if_neg (show ¬ x = 3 from c_37), if_pos (show x = 4 from c_49)]; done) | (rw [if_neg (show ¬ x = 0 from c_1), if_neg (show ¬ x = 1 from c_13), if_neg (show ¬ x = 2 from c_25), if_neg (show ¬ x = 3 from c_37), if_neg (show ¬ x = 4 from c_49), if_pos (show x = 5 from c_61)]; done) | (rw [if_neg (show ¬ x = 0 from c_1), if_neg (show ¬ x = 1 from c_13), if_neg (show ¬ x = 2 from c_25), if_neg (show ¬ x = 3 from c_37), if_neg (show ¬ x = 4 from c_49), if_neg (show ¬ x = 5 from c_61), if_pos (show x = 6 from c_74)]; done) | (rw [if_neg (show ¬ x = 0 from c_1), if_neg (show ¬ x = 1 from c_13), if_neg (show ¬ x = 2 from c_25), if_neg (show ¬ x = 3 from c_37), if_neg (show ¬ x = 4 from c_49), if_neg (show ¬ x = 5 from c_61), if_neg (show ¬ x = 6 from c_74)]; done)), ht⟩) (fun _ h => by cases h) dX4_count_85
      ·
        refine lv_aload_n hx hb dX4_count_28 rfl (lv_at hl 0 rfl) ?_
        refine va_get (D := D) (ci := 4) (v := .int fl) (C := RX4) (T := TX4) (N := 21) hx hb hw iwX4 hown hK.1 hP 0 rfl rfl 9 (by decide) (hw _ xw_273) (fun _ h9 => h9) rfl dX4_count_29 ?_
        refine lv_goto (tgt := 85) hx hb dX4_count_32 (by decide) ?_
        exact W.iret (v := fl) hx hb hr (fun zt ht hW => ⟨_, rfl, (by show _ = _; unfold es_cm; first | (rw [if_pos (show x = 0 from c_1)]; done) | (rw [if_neg (show ¬ x = 0 from c_1), if_pos (show x = 1 from c_13)]; done) | (rw [if_neg (show ¬ x = 0 from c_1), if_neg (show ¬ x = 1 from c_13), if_pos (show x = 2 from c_25)]; done) | (rw [if_neg (show ¬ x = 0 from c_1), if_neg (show ¬ x = 1 from c_13), if_neg (show ¬ x = 2 from c_25), if_pos (show x = 3 from c_37)]; done) | (rw [if_neg (show ¬ x = 0 from c_1), if_neg (show ¬ x = 1 from c_13), if_neg (show ¬ x = 2 from c_25), if_neg (show ¬ x = 3 from c_37), if_pos (show x = 4 from c_49)]; done) | (rw [if_neg (show ¬ x = 0 from c_1), if_neg (show ¬ x = 1 from c_13), if_neg (show ¬ x = 2 from c_25), if_neg (show ¬ x = 3 from c_37), if_neg (show ¬ x = 4 from c_49), if_pos (show x = 5 from c_61)]; done) | (rw [if_neg (show ¬ x = 0 from c_1), if_neg (show ¬ x = 1 from c_13), if_neg (show ¬ x = 2 from c_25), if_neg (show ¬ x = 3 from c_37), if_neg (show ¬ x = 4 from c_49), if_neg (show ¬ x = 5 from c_61), if_pos (show x = 6 from c_74)]; done) | (rw [if_neg (show ¬ x = 0 from c_1), if_neg (show ¬ x = 1 from c_13), if_neg (show ¬ x = 2 from c_25), if_neg (show ¬ x = 3 from c_37), if_neg (show ¬ x = 4 from c_49), if_neg (show ¬ x = 5 from c_61), if_neg (show ¬ x = 6 from c_74)]; done)), ht⟩) (fun _ h => by cases h) dX4_count_85
    ·
      refine lv_aload_n hx hb dX4_count_16 rfl (lv_at hl 0 rfl) ?_
      refine va_get (D := D) (ci := 4) (v := .int (nI n)) (C := RX4) (T := TX4) (N := 21) hx hb hw iwX4 hown hK.1 hP 0 rfl rfl 3 (by decide) (hw _ xw_260) (fun _ h9 => h9) rfl dX4_count_17 ?_
      refine lv_goto (tgt := 85) hx hb dX4_count_20 (by decide) ?_
      exact W.iret (v := nI n) hx hb hr (fun zt ht hW => ⟨_, rfl, (by show _ = _; unfold es_cm; first | (rw [if_pos (show x = 0 from c_1)]; done) | (rw [if_neg (show ¬ x = 0 from c_1), if_pos (show x = 1 from c_13)]; done) | (rw [if_neg (show ¬ x = 0 from c_1), if_neg (show ¬ x = 1 from c_13), if_pos (show x = 2 from c_25)]; done) | (rw [if_neg (show ¬ x = 0 from c_1), if_neg (show ¬ x = 1 from c_13), if_neg (show ¬ x = 2 from c_25), if_pos (show x = 3 from c_37)]; done) | (rw [if_neg (show ¬ x = 0 from c_1), if_neg (show ¬ x = 1 from c_13), if_neg (show ¬ x = 2 from c_25), if_neg (show ¬ x = 3 from c_37), if_pos (show x = 4 from c_49)]; done) | (rw [if_neg (show ¬ x = 0 from c_1), if_neg (show ¬ x = 1 from c_13), if_neg (show ¬ x = 2 from c_25), if_neg (show ¬ x = 3 from c_37), if_neg (show ¬ x = 4 from c_49), if_pos (show x = 5 from c_61)]; done) | (rw [if_neg (show ¬ x = 0 from c_1), if_neg (show ¬ x = 1 from c_13), if_neg (show ¬ x = 2 from c_25), if_neg (show ¬ x = 3 from c_37), if_neg (show ¬ x = 4 from c_49), if_neg (show ¬ x = 5 from c_61), if_pos (show x = 6 from c_74)]; done) | (rw [if_neg (show ¬ x = 0 from c_1), if_neg (show ¬ x = 1 from c_13), if_neg (show ¬ x = 2 from c_25), if_neg (show ¬ x = 3 from c_37), if_neg (show ¬ x = 4 from c_49), if_neg (show ¬ x = 5 from c_61), if_neg (show ¬ x = 6 from c_74)]; done)), ht⟩) (fun _ h => by cases h) dX4_count_85
  ·
    refine lv_aload_n hx hb dX4_count_4 rfl (lv_at hl 0 rfl) ?_
    refine va_get (D := D) (ci := 4) (v := .int (nI tn)) (C := RX4) (T := TX4) (N := 21) hx hb hw iwX4 hown hK.1 hP 0 rfl rfl 4 (by decide) (hw _ xw_268) (fun _ h9 => h9) rfl dX4_count_5 ?_
    refine lv_goto (tgt := 85) hx hb dX4_count_8 (by decide) ?_
    exact W.iret (v := nI tn) hx hb hr (fun zt ht hW => ⟨_, rfl, (by show _ = _; unfold es_cm; first | (rw [if_pos (show x = 0 from c_1)]; done) | (rw [if_neg (show ¬ x = 0 from c_1), if_pos (show x = 1 from c_13)]; done) | (rw [if_neg (show ¬ x = 0 from c_1), if_neg (show ¬ x = 1 from c_13), if_pos (show x = 2 from c_25)]; done) | (rw [if_neg (show ¬ x = 0 from c_1), if_neg (show ¬ x = 1 from c_13), if_neg (show ¬ x = 2 from c_25), if_pos (show x = 3 from c_37)]; done) | (rw [if_neg (show ¬ x = 0 from c_1), if_neg (show ¬ x = 1 from c_13), if_neg (show ¬ x = 2 from c_25), if_neg (show ¬ x = 3 from c_37), if_pos (show x = 4 from c_49)]; done) | (rw [if_neg (show ¬ x = 0 from c_1), if_neg (show ¬ x = 1 from c_13), if_neg (show ¬ x = 2 from c_25), if_neg (show ¬ x = 3 from c_37), if_neg (show ¬ x = 4 from c_49), if_pos (show x = 5 from c_61)]; done) | (rw [if_neg (show ¬ x = 0 from c_1), if_neg (show ¬ x = 1 from c_13), if_neg (show ¬ x = 2 from c_25), if_neg (show ¬ x = 3 from c_37), if_neg (show ¬ x = 4 from c_49), if_neg (show ¬ x = 5 from c_61), if_pos (show x = 6 from c_74)]; done) | (rw [if_neg (show ¬ x = 0 from c_1), if_neg (show ¬ x = 1 from c_13), if_neg (show ¬ x = 2 from c_25), if_neg (show ¬ x = 3 from c_37), if_neg (show ¬ x = 4 from c_49), if_neg (show ¬ x = 5 from c_61), if_neg (show ¬ x = 6 from c_74)]; done)), ht⟩) (fun _ h => by cases h) dX4_count_85
set_option maxHeartbeats 1000000 in
set_option maxRecDepth 100000 in
/-- X4.clear  -/
theorem c_X4_clear (l : Launch) (D : va_G) (cI : ClassId) (sz : Nat) (mo : Nat) (ma : Nat) (mk : Nat) (mtx : Nat) (m0 : Nat) (m1 : Nat) (m2 : Nat) (m3 : Nat) (mb : Nat) (ar : Nat → Int32) (ki : Nat → Int32) (n : Nat) (tn : Nat) (fl : Int32) (fk : Int32) (ot : Int32) (of_ : Int32) (os_ : Int32) (rd : Nat) (sc : Nat) (ed : Nat) (ts : Int32) (tkd : Int32) (tl : Int32)  : Met l yX4_clear (Cond.code yX4_clear cX4_clear 2 (some .int) :: es_T) { frames := 1, cells := 0, slots := 0, locals := 21 } (va_Pc [.ref mo] (es_W D cI sz [(mo, .inr (4, [.ref ma, .ref mk, .ref mtx, .int (nI n), .int (nI tn), .ref m0, .ref m1, .ref m2, .ref m3, .int fl, .int fk, .int ot, .ref mb, .int of_, .int os_, .int (nI rd), .int (nI sc), .int (nI ed), .int ts, .int tkd, .int tl])), (ma, .inl (cI, 200, .inl ar)), (mk, .inl (cI, 20, .inl ki))])) (va_Qi (fun q _ => q = nI tn) (fun (u : Unit) zt => va_P D vwCl [(mo, .inr (4, [.ref ma, .ref mk, .ref mtx, .int (nI 0), .int (nI 0), .ref m0, .ref m1, .ref m2, .ref m3, .int (-1), .int (nI 0), .int ot, .ref mb, .int of_, .int os_, .int (nI 0), .int (nI 0), .int (nI 0), .int ts, .int tkd, .int tl])), (ma, .inl (cI, 200, .inl (fun _ => -1))), (mk, .inl (cI, 20, .inl (fun _ => -1)))] zt.heap ∧ va_D (va_A [(mo, .inr (4, [.ref ma, .ref mk, .ref mtx, .int (nI n), .int (nI tn), .ref m0, .ref m1, .ref m2, .ref m3, .int fl, .int fk, .int ot, .ref mb, .int of_, .int os_, .int (nI rd), .int (nI sc), .int (nI ed), .int ts, .int tkd, .int tl])), (ma, .inl (cI, 200, .inl ar)), (mk, .inl (cI, 20, .inl ki))] sz) [(mo, .inr (4, [.ref ma, .ref mk, .ref mtx, .int (nI 0), .int (nI 0), .ref m0, .ref m1, .ref m2, .ref m3, .int (-1), .int (nI 0), .int ot, .ref mb, .int of_, .int os_, .int (nI 0), .int (nI 0), .int (nI 0), .int ts, .int tkd, .int tl])), (ma, .inl (cI, 200, .inl (fun _ => -1))), (mk, .inl (cI, 20, .inl (fun _ => -1)))]) (va_A [(mo, .inr (4, [.ref ma, .ref mk, .ref mtx, .int (nI n), .int (nI tn), .ref m0, .ref m1, .ref m2, .ref m3, .int fl, .int fk, .int ot, .ref mb, .int of_, .int os_, .int (nI rd), .int (nI sc), .int (nI ed), .int ts, .int tkd, .int tl])), (ma, .inl (cI, 200, .inl ar)), (mk, .inl (cI, 20, .inl ki))] sz)) 0 0 (va_A [(mo, .inr (4, [.ref ma, .ref mk, .ref mtx, .int (nI n), .int (nI tn), .ref m0, .ref m1, .ref m2, .ref m3, .int fl, .int fk, .int ot, .ref mb, .int of_, .int os_, .int (nI rd), .int (nI sc), .int (nI ed), .int ts, .int tkd, .int tl])), (ma, .inl (cI, 200, .inl ar)), (mk, .inl (cI, 20, .inl ki))] sz) := by
  refine Met.ofW (cc := cX4_clear) (maxL := 2) (ret := (some .int)) (by decide) rfl ?_
  intro p e s m args below meth c s₁ B hml hv
  obtain ⟨rfl, hsz, hP, hK, hD0⟩ := hv
  have hx := B.exec
  have hb := B.bytes
  have hr := B.returns
  have hts := atoms_spec (ws := (Cond.code yX4_clear cX4_clear 2 (some .int) :: es_T)) B.pre
  have hw : ∀ w ∈ es_T, w.before _ s = true := fun w h => hts w (List.mem_cons_of_mem _ h)
  have hown : s.vm.findClass RX4 = some m.cls := findClass_of_methodNamed B.named
  have hlocks := B.notSynchronized
  have hRm : 1 ≤ (headSpec (Cond.code yX4_clear cX4_clear 2 (some .int) :: es_T) { frames := 1, cells := 0, slots := 0, locals := 21 }).room.frames ∧ 21 ≤ (headSpec (Cond.code yX4_clear cX4_clear 2 (some .int) :: es_T) { frames := 1, cells := 0, slots := 0, locals := 21 }).room.locals := ⟨Nat.le_refl _, Nat.le_refl _⟩
  have hRc : 0 ≤ (headSpec (Cond.code yX4_clear cX4_clear 2 (some .int) :: es_T) { frames := 1, cells := 0, slots := 0, locals := 21 }).room.cells ∧ 0 ≤ (headSpec (Cond.code yX4_clear cX4_clear 2 (some .int) :: es_T) { frames := 1, cells := 0, slots := 0, locals := 21 }).room.slots := ⟨Nat.le_refl _, Nat.le_refl _⟩
  subst hsz
  have hD := hD0.self (sz := s.heap.size)
  generalize hAe : va_A [(mo, .inr (4, [.ref ma, .ref mk, .ref mtx, .int (nI n), .int (nI tn), .ref m0, .ref m1, .ref m2, .ref m3, .int fl, .int fk, .int ot, .ref mb, .int of_, .int os_, .int (nI rd), .int (nI sc), .int (nI ed), .int ts, .int tkd, .int tl])), (ma, .inl (cI, 200, .inl ar)), (mk, .inl (cI, 20, .inl ki))] s.heap.size = A at hD ⊢
  have hA : ∀ q : Nat, s.heap.size ≤ q → A q := fun q h => by rw [← hAe]; exact Or.inr h
  have hS : va_S A s.heap s.heap [] := va_S.rf
  have hl := lv_entry ([.ref mo]) (n := 2) (Nat.le_of_ble_eq_true rfl)
  rw [lg_entry_eq]
  generalize (lg_sl ([.ref mo]) ++ List.replicate (2 - (lg_sl ([.ref mo])).length) Slot.unset).toArray = ls at hl ⊢
  have hl : lv_has ls 2 [(0, .ref mo)] := hl
  refine lv_aload_n hx hb dX4_clear_0 rfl (lv_at hl 0 rfl) ?_
  refine va_get (D := D) (ci := 4) (v := .int (nI tn)) (C := RX4) (T := TX4) (N := 21) hx hb hw iwX4 hown hK.1 hP 0 rfl rfl 4 (by decide) (hw _ xw_268) (fun _ h9 => h9) rfl dX4_clear_1 ?_
  refine lv_istore_n (lv' := [(1, .int (nI tn)), (0, .ref mo)]) hx hb dX4_clear_4 rfl hl (by decide) rfl (fun ls hl => ?_)
  refine lv_aload_n hx hb dX4_clear_5 rfl (lv_at hl 1 rfl) ?_
  refine es_cv (wr := []) (va_runV (As := []) (rest := []) ⟨hx, hb, hml, hown, hw⟩ (c_X4_forget l D cI s.heap.size mo ma mk mtx m0 m1 m2 m3 mb ar ki n tn fl fk ot of_ os_ rd sc ed ts tkd tl ) (cwV 0 hw (es_v xw_269 xw_270 xw_271 xw_272 xw_8) rfl rfl rfl kv_X4_forget ⟨Nat.le_trans (Nat.le_of_ble_eq_true rfl) hRm.1, Nat.le_trans (Nat.le_of_ble_eq_true rfl) hRm.2⟩) (es_WV hK (hP.sub (ws' := [(mo, .inr (4, [.ref ma, .ref mk, .ref mtx, .int (nI n), .int (nI tn), .ref m0, .ref m1, .ref m2, .ref m3, .int fl, .int fk, .int ot, .ref mb, .int of_, .int os_, .int (nI rd), .int (nI sc), .int (nI ed), .int ts, .int tkd, .int tl])), (ma, .inl (cI, 200, .inl ar)), (mk, .inl (cI, 20, .inl ki))]) [0, 1, 2] rfl) (hD.sub (ws' := [(mo, .inr (4, [.ref ma, .ref mk, .ref mtx, .int (nI n), .int (nI tn), .ref m0, .ref m1, .ref m2, .ref m3, .int fl, .int fk, .int ot, .ref mb, .int of_, .int os_, .int (nI rd), .int (nI sc), .int (nI ed), .int ts, .int tkd, .int tl])), (ma, .inl (cI, 200, .inl ar)), (mk, .inl (cI, 20, .inl ki))]) [0, 1, 2] (by decide) rfl) rfl rfl) rfl rfl hl.1 rfl (lv_room (Nat.le_of_ble_eq_true rfl)) dX4_clear_6 ⟨(Nat.zero_le _), (Nat.zero_le _)⟩) hP hD hS hA [0, 1, 2] [] rfl rfl (by decide) (by decide) (fun u_1 H locs hu_1 hP hD hS => ?_)
  have hP : va_P D vwCl [(mo, .inr (4, [.ref ma, .ref mk, .ref mtx, .int (nI 0), .int (nI 0), .ref m0, .ref m1, .ref m2, .ref m3, .int (-1), .int (nI 0), .int ot, .ref mb, .int of_, .int os_, .int (nI 0), .int (nI 0), .int (nI 0), .int ts, .int tkd, .int tl])), (ma, .inl (cI, 200, .inl (fun _ => -1))), (mk, .inl (cI, 20, .inl (fun _ => -1)))] H := hP
  have hD : va_D A [(mo, .inr (4, [.ref ma, .ref mk, .ref mtx, .int (nI 0), .int (nI 0), .ref m0, .ref m1, .ref m2, .ref m3, .int (-1), .int (nI 0), .int ot, .ref mb, .int of_, .int os_, .int (nI 0), .int (nI 0), .int (nI 0), .int ts, .int tkd, .int tl])), (ma, .inl (cI, 200, .inl (fun _ => -1))), (mk, .inl (cI, 20, .inl (fun _ => -1)))] := hD
  refine lv_iload_n hx hb dX4_clear_9 rfl (lv_at hl 0 rfl) ?_
  exact W.iret (v := nI tn) hx hb hr (fun zt ht hW => ⟨⟨_, (), rfl, rfl, ⟨by rw [ht]; exact hP.sub [0, 1, 2] rfl, hD.sub [0, 1, 2] (by decide) rfl⟩⟩, hS.F ht⟩) hS.2.2 dX4_clear_10
