-- ===== the base: the common words, the common premises, calls in one row =====
def es_good (w : Cond) : Bool := (w.onTables && w.keeps) || (match w with | .arrayClass _ => true | _ => false)
def es_T : List Cond := lw_tbl.filter es_good
theorem es_in {w : Cond} (i : Nat) (h : lw_tbl[i]? = some w) (g : es_good w = true) : w ∈ es_T := List.mem_filter.mpr ⟨List.mem_of_getElem? h, g⟩
theorem es_tbl {w : Cond} (h : w ∈ es_T) : w ∈ lw_tbl := (List.mem_filter.mp h).1
theorem es_gd {w : Cond} (h : w ∈ es_T) : (w.onTables && w.keeps) = true ∨ ∃ ty, w = .arrayClass ty := by
  have g := (List.mem_filter.mp h).2
  unfold es_good at g
  cases hq : (w.onTables && w.keeps) with
  | true => exact Or.inl rfl
  | false =>
    rw [hq] at g
    cases w <;> first | exact Or.inr ⟨_, rfl⟩ | (simp at g; done)
theorem es_c {w : Cond} (h : w ∈ es_T) : GoodIn es_T (w :: es_T) := by
  intro x hx
  rcases List.mem_cons.mp hx with rfl | hx
  · exact ⟨h, es_gd h⟩
  · exact ⟨hx, es_gd hx⟩
theorem es_v {own : String} {idx : Nat} {C : String} {y : MethodName} {w : Cond} (h : w ∈ es_T) (h1 : Cond.methodLink own idx y ∈ es_T) (h2 : Cond.instanceMethod y ∈ es_T) (h3 : Cond.selects C y y ∈ es_T) (h4 : Cond.initialized C ∈ es_T) : GoodIn es_T (wsV own idx C y (w :: es_T)) := by
  intro x hx
  unfold wsV at hx
  rcases List.mem_append.mp hx with hx | hx
  · simp only [List.mem_cons, List.not_mem_nil, or_false] at hx
    rcases hx with rfl | rfl | rfl | rfl
    · exact ⟨h1, es_gd h1⟩
    · exact ⟨h2, es_gd h2⟩
    · exact ⟨h3, es_gd h3⟩
    · exact ⟨h4, es_gd h4⟩
  · exact es_c h x hx
theorem es_s {own : String} {idx : Nat} {y : MethodName} {w : Cond} (h : w ∈ es_T) (h1 : Cond.methodLink own idx y ∈ es_T) (h2 : Cond.static y ∈ es_T) (h4 : Cond.initialized own ∈ es_T) : GoodIn es_T (wsS own idx y (w :: es_T)) := by
  intro x hx
  unfold wsS at hx
  rcases List.mem_append.mp hx with hx | hx
  · simp only [List.mem_cons, List.not_mem_nil, or_false] at hx
    rcases hx with rfl | rfl | rfl
    · exact ⟨h1, es_gd h1⟩
    · exact ⟨h2, es_gd h2⟩
    · exact ⟨h4, es_gd h4⟩
  · exact es_c h x hx
theorem es_so {own : String} {idx : Nat} {y : MethodName} {w : Cond} (h : w ∈ es_T) (h1 : Cond.methodLink own idx y ∈ es_T) (h2 : Cond.static y ∈ es_T) (h4 : Cond.initialized y.cls ∈ es_T) : GoodIn es_T (va_wsS own idx y (w :: es_T)) := by
  intro x hx
  unfold va_wsS at hx
  rcases List.mem_append.mp hx with hx | hx
  · simp only [List.mem_cons, List.not_mem_nil, or_false] at hx
    rcases hx with rfl | rfl | rfl
    · exact ⟨h1, es_gd h1⟩
    · exact ⟨h2, es_gd h2⟩
    · exact ⟨h4, es_gd h4⟩
  · exact es_c h x hx
def es_nw (U : State) : Prop := va_Nw (.methodLinkNest RX3 18 yX2_init RX3) U ∧ va_Nw (.methodLinkNest RX3 25 yX0_init RX3) U ∧ va_Nw (.methodLinkNest RX2 29 yX3_unpack RX3) U
theorem es_nw_warm {s U : State} (hW : s.WarmedH U.vm) (h : es_nw s) : es_nw U := ⟨va_Nw.warmM hW h.1, va_Nw.warmM hW h.2.1, va_Nw.warmM hW h.2.2⟩
theorem es_nw_same {u U : State} (e : u.vm = U.vm) (h : es_nw u) : es_nw U := ⟨va_Nw.same rfl e h.1, va_Nw.same rfl e h.2.1, va_Nw.same rfl e h.2.2⟩
/-- what holds in every state: the classes, the class of int arrays, the nest's links -/
def es_K (D : va_G) (cI : ClassId) (U : State) : Prop := va_K D vwCl [(cI, .int)] U ∧ es_nw U
theorem es_K.warm {D : va_G} {cI : ClassId} {s U : State} (hW : s.WarmedH U.vm) (h : es_K D cI s) : es_K D cI U := ⟨va_K.moved hW.alike h.1, es_nw_warm hW h.2⟩
theorem es_K.call {D : va_G} {cI : ClassId} {U : State} {g : JFrame} {mk : MethodId} {a : Array Value} (h : es_K D cI U) : es_K D cI (U.calling g mk a) := ⟨va_K.moved (u := U) (U := U.calling g mk a) (Vm.Alike.refl U.vm) h.1, es_nw_same rfl h.2⟩
/-- a reading method's start -/
abbrev es_R (D : va_G) (cI : ClassId) (ws : va_W) (U : State) : Prop := va_P D vwCl ws U.heap ∧ es_K D cI U
/-- a writing method's start -/
abbrev es_W (D : va_G) (cI : ClassId) (sz : Nat) (ws : va_W) (U : State) : Prop := U.heap.size = sz ∧ va_P D vwCl ws U.heap ∧ es_K D cI U ∧ va_D (fun _ => True) ws
/-- a writing method's end -/
abbrev es_E (D : va_G) (sz : Nat) (ws ws' : va_W) (t : State) : Prop := va_P D vwCl ws' t.heap ∧ va_D (va_A ws sz) ws'
theorem es_RS {D : va_G} {cI : ClassId} {s : State} {H : Heap} {As : List Value} {ws : va_W} (hK : es_K D cI s) (hP : va_P D vwCl ws H) : PreS s H (va_Pc As (es_R D cI ws)) As :=
  ⟨fun _ _ _ _ q => ⟨q.1, q.2.1, q.2.2.call⟩, fun U hU hW => ⟨rfl, by rw [hU]; exact hP, hK.warm hW⟩⟩
theorem es_RV {D : va_G} {cI : ClassId} {s : State} {H : Heap} {b : Nat} {As : List Value} {ws : va_W} {ci : Nat} {q : vw_C} {fs : List Value} (hK : es_K D cI s) (hP : va_P D vwCl ws H) (hc : vwCl[ci]? = some q) (he : ws[0]? = some (b, .inr (ci, fs))) : PreV s H q.1 b (va_Pc (.ref b :: As) (es_R D cI ws)) As :=
  ⟨fun _ _ _ _ q => ⟨q.1, q.2.1, q.2.2.call⟩, va_recv hK.1 hP hc he, fun U hU hW => ⟨rfl, by rw [hU]; exact hP, hK.warm hW⟩⟩
theorem es_WS {D : va_G} {cI : ClassId} {s : State} {H : Heap} {As : List Value} {ws : va_W} {A : Nat → Prop} (hK : es_K D cI s) (hP : va_P D vwCl ws H) (hD : va_D A ws) : PreS s H (va_Pc As (es_W D cI H.size ws)) As :=
  ⟨fun _ _ _ _ q => ⟨q.1, q.2.1, q.2.2.1, q.2.2.2.1.call, q.2.2.2.2⟩, fun U hU hW => ⟨rfl, by rw [hU], by rw [hU]; exact hP, hK.warm hW, hD.weaken (fun _ _ _ _ => trivial)⟩⟩
theorem es_WV {D : va_G} {cI : ClassId} {s : State} {H : Heap} {b : Nat} {As : List Value} {ws : va_W} {A : Nat → Prop} {ci : Nat} {q : vw_C} {fs : List Value} (hK : es_K D cI s) (hP : va_P D vwCl ws H) (hD : va_D A ws) (hc : vwCl[ci]? = some q) (he : ws[0]? = some (b, .inr (ci, fs))) : PreV s H q.1 b (va_Pc (.ref b :: As) (es_W D cI H.size ws)) As :=
  ⟨fun _ _ _ _ q => ⟨q.1, q.2.1, q.2.2.1, q.2.2.2.1.call, q.2.2.2.2⟩, va_recv hK.1 hP hc he, fun U hU hW => ⟨rfl, by rw [hU], by rw [hU]; exact hP, hK.warm hW, hD.weaken (fun _ _ _ _ => trivial)⟩⟩
section ESC
variable {p : Program} {l : Launch} {e : Env} {R : Room} {s : State} {m : MethodId} {args : Array Value} {below : List Frame} {meth : Method} {c : Code} {H : Heap} {locs : List Loc} {cells slots : Nat} {Q : State → Prop}
variable {pc : Nat} {ls : Array Slot} {rest st0 : List Value} {a : Array Value} {A0 : Nat → Prop} {H0 : Heap} {mc ms : Nat}
/-- behind a writing call that answers an int -/
theorem es_ci {S : Type} {post : Int32 → S → Prop} {D : va_G} {ws wc wr : va_W} {w1 : S → va_W}
    (hr : va_Run p l e R s m args below meth c H locs cells slots mc ms (F0 m pc ls st0) rest (va_Qi post (fun u t => es_E D H.size wc (w1 u) t) (va_A wc H.size) a) (va_A wc H.size))
    (hP : va_P D vwCl ws H) (hD : va_D A0 ws) (hS : va_S A0 H0 H locs) (hA : ∀ q, H0.size ≤ q → A0 q) (isC isR : List Nat) (hC : isC.map (fun i => ws[i]?) = wc.map some) (hR : isR.map (fun i => ws[i]?) = wr.map some) (hn : va_nd isR = true) (hdis : ∀ i ∈ isR, i ∉ isC)
    (kk : ∀ (r : Int32) (u : S) (H1 : Heap) (locs1 : List Loc), post r u → va_P D vwCl (wr ++ w1 u) H1 → va_D A0 (wr ++ w1 u) → va_S A0 H0 H1 locs1 → W p l e R s m args below meth c H1 locs1 (cells + mc) (slots + ms) Q (F0 m (pc + 3) ls (.int r :: rest))) : W p l e R s m args below meth c H locs cells slots Q (F0 m pc ls st0) := by
  have hFc := va_free (wc := wc) hD hS hA isC hC
  refine va_calli hr hS (fun q _ h => hFc q h) hFc (fun r u t H1 locs1 ht hvm hw hB hz1 hk1 hS1 => ?_)
  obtain ⟨hP1, hD1⟩ := hB
  rw [ht] at hP1
  obtain ⟨hP2, hD2⟩ := va_join (wr := wr) hP hD isC isR hC hR hn hdis hk1 hFc hP1 hD1
  exact kk r u H1 locs1 hw hP2 hD2 hS1
/-- behind a writing call without an answer -/
theorem es_cv {S : Type} {post : S → Prop} {D : va_G} {ws wc wr : va_W} {w1 : S → va_W}
    (hr : va_Run p l e R s m args below meth c H locs cells slots mc ms (F0 m pc ls st0) rest (va_Qv post (fun u t => es_E D H.size wc (w1 u) t) (va_A wc H.size) a) (va_A wc H.size))
    (hP : va_P D vwCl ws H) (hD : va_D A0 ws) (hS : va_S A0 H0 H locs) (hA : ∀ q, H0.size ≤ q → A0 q) (isC isR : List Nat) (hC : isC.map (fun i => ws[i]?) = wc.map some) (hR : isR.map (fun i => ws[i]?) = wr.map some) (hn : va_nd isR = true) (hdis : ∀ i ∈ isR, i ∉ isC)
    (kk : ∀ (u : S) (H1 : Heap) (locs1 : List Loc), post u → va_P D vwCl (wr ++ w1 u) H1 → va_D A0 (wr ++ w1 u) → va_S A0 H0 H1 locs1 → W p l e R s m args below meth c H1 locs1 (cells + mc) (slots + ms) Q (F0 m (pc + 3) ls rest)) : W p l e R s m args below meth c H locs cells slots Q (F0 m pc ls st0) := by
  have hFc := va_free (wc := wc) hD hS hA isC hC
  refine va_callv hr hS (fun q _ h => hFc q h) hFc (fun u t H1 locs1 ht hvm hw hB hz1 hk1 hS1 => ?_)
  obtain ⟨hP1, hD1⟩ := hB
  rw [ht] at hP1
  obtain ⟨hP2, hD2⟩ := va_join (wr := wr) hP hD isC isR hC hR hn hdis hk1 hFc hP1 hD1
  exact kk u H1 locs1 hw hP2 hD2 hS1
/-- the number on the stack by another name -/
theorem es_top {x y : Int32} (h : x = y) (k : W p l e R s m args below meth c H locs cells slots Q (F0 m pc ls (.int y :: rest))) : W p l e R s m args below meth c H locs cells slots Q (F0 m pc ls (.int x :: rest)) := h ▸ k
theorem es_topl {x y : Int64} (h : x = y) (k : W p l e R s m args below meth c H locs cells slots Q (F0 m pc ls (.long y :: rest))) : W p l e R s m args below meth c H locs cells slots Q (F0 m pc ls (.long x :: rest)) := h ▸ k
variable {cc : ByteArray} {D : va_G} {cl : List vw_C} {A : Nat → Prop} {q : Nat} {tys : List (ClassId × FieldType)} {ws : va_W}
/-- an int array's element at a Nat -/
theorem es_iald (hexec : p.tables.exec = Jvm.exec) (hb : c.code = cc) (hK : va_K D cl tys s) (hP : va_P D cl ws H) (q0 t0 : Nat) {cA : ClassId} {n : Nat} {f : Nat → Int32} (ha : ws[q0]? = some (q, .inl (cA, n, .inl f))) (ht : tys[t0]? = some (cA, .int)) {j : Nat} (hj : j < n) (hn : n < 2 ^ 31) (hdg : decode cc pc = .ok (.iaload, 1))
    (kk : W p l e R s m args below meth c H locs cells slots Q (F0 m (pc + 1) ls (.int (f j) :: rest))) : W p l e R s m args below meth c H locs cells slots Q (F0 m pc ls (.int (nI j) :: .ref q :: rest)) :=
  va_iald hexec hb hK hP q0 t0 ha ht (vp_in_nI hj hn) hdg (by rw [nI_clamp (by omega)]; exact kk)
theorem es_iast (hexec : p.tables.exec = Jvm.exec) (hb : c.code = cc) (hK : va_K D cl tys s) (hP : va_P D cl ws H) (hD : va_D A ws) (hS : va_S A H0 H locs) (q0 t0 : Nat) {cA : ClassId} {n : Nat} {f : Nat → Int32} (ha : ws[q0]? = some (q, .inl (cA, n, .inl f))) (ht : tys[t0]? = some (cA, .int)) {j : Nat} {x : Int32} (hj : j < n) (hn : n < 2 ^ 31) (hdg : decode cc pc = .ok (.iastore, 1))
    (kk : ∀ (H1 : Heap) (locs1 : List Loc), va_P D cl (ws.set q0 (q, .inl (cA, n, .inl (upd f j x)))) H1 → va_D A (ws.set q0 (q, .inl (cA, n, .inl (upd f j x)))) → va_S A H0 H1 locs1 → W p l e R s m args below meth c H1 locs1 cells slots Q (F0 m (pc + 1) ls rest)) : W p l e R s m args below meth c H locs cells slots Q (F0 m pc ls (.int x :: .int (nI j) :: .ref q :: rest)) :=
  va_iast hexec hb hK hP hD hS q0 t0 ha ht (vp_in_nI hj hn) hdg (by rw [nI_clamp (by omega)]; exact kk)
/-- a new int array: its class is the one that we know -/
theorem es_newa {cI : ClassId} (hexec : p.tables.exec = Jvm.exec) (hb : c.code = cc) (harr : (Cond.arrayClass .int).before args s = true) (hK : va_K D vwCl [(cI, .int)] s) (hP : va_P D vwCl ws H) (hD : va_D A ws) (hS : va_S A H0 H locs) (hA : ∀ q, H0.size ≤ q → A q)
    {n : Int32} {N' : Nat} (hn : ¬ n < 0) (hN : n.toNatClampNeg = N') (hcells : cells + 1 ≤ R.cells) (hslots : slots + N' ≤ R.slots) (hbytes : N' * componentBytes .int ≤ 536870912) (hdg : decode cc pc = .ok (.newarray .int, 2))
    (kk : ∀ (q : Nat) (H1 : Heap), va_P D vwCl (ws ++ [(q, .inl (cI, N', .inl (fun _ => 0)))]) H1 → va_D A (ws ++ [(q, .inl (cI, N', .inl (fun _ => 0)))]) → va_S A H0 H1 locs → W p l e R s m args below meth c H1 locs (cells + 1) (slots + N') Q (F0 m (pc + 2) ls (.ref q :: rest))) : W p l e R s m args below meth c H locs cells slots Q (F0 m pc ls (.int n :: rest)) := by
  refine va_newa (atype := .int) (ty := .int) (N' := N') (a0 := (N', .inl (fun _ => 0))) hexec hb harr rfl hK hP hD hS hA (fun cA => rfl) hn hN hbytes hcells hslots hdg (fun q cA H1 hK1 hP1 hD1 hS1 => ?_)
  have e1 : s.vm.findClass ("[" ++ (FieldType.int).toString) = some cI := (hK.2 0 (cI, .int) rfl).2
  have e2 : s.vm.findClass ("[" ++ (FieldType.int).toString) = some cA := (hK1.2 1 (cA, .int) rfl).2
  have e3 : cA = cI := Option.some.inj (e2.symm.trans e1)
  subst e3
  exact kk q H1 hP1 hD1 hS1
end ESC
theorem es_ne {x : Int32} {k : Int32} (h : ¬ x = k) : x.toInt ≠ k.toInt := fun e => h (Int32.toInt_inj.mp e)
theorem es_out4 {x : Int32} (h0 : ¬ x = 0) (h1 : ¬ x = 1) (h2 : ¬ x = 2) (h3 : ¬ x = 3) : x.toInt < 0 ∨ 3 < x.toInt := by
  have a0 := es_ne h0; have a1 := es_ne h1; have a2 := es_ne h2; have a3 := es_ne h3
  simp only [show (0 : Int32).toInt = 0 from rfl, show (1 : Int32).toInt = 1 from rfl, show (2 : Int32).toInt = 2 from rfl, show (3 : Int32).toInt = 3 from rfl] at a0 a1 a2 a3
  omega
theorem es_out7 {x : Int32} (h0 : ¬ x = 0) (h1 : ¬ x = 1) (h2 : ¬ x = 2) (h3 : ¬ x = 3) (h4 : ¬ x = 4) (h5 : ¬ x = 5) (h6 : ¬ x = 6) : x.toInt < 0 ∨ 6 < x.toInt := by
  have a0 := es_ne h0; have a1 := es_ne h1; have a2 := es_ne h2; have a3 := es_ne h3; have a4 := es_ne h4; have a5 := es_ne h5; have a6 := es_ne h6
  simp only [show (0 : Int32).toInt = 0 from rfl, show (1 : Int32).toInt = 1 from rfl, show (2 : Int32).toInt = 2 from rfl, show (3 : Int32).toInt = 3 from rfl, show (4 : Int32).toInt = 4 from rfl, show (5 : Int32).toInt = 5 from rfl, show (6 : Int32).toInt = 6 from rfl] at a0 a1 a2 a3 a4 a5 a6
  omega
/-- rows by their numbers -/
def es_row4 (a b c d : Nat → Int32) : Nat → Nat → Int32 := fun k => match k with | 0 => a | 1 => b | 2 => c | _ => d
theorem iwX0 : ∀ w ∈ u_ws RX0 TX0 5, w ∈ es_T := by decide +kernel
theorem iwX1 : ∀ w ∈ u_ws RX1 TX1 2, w ∈ es_T := by decide +kernel
theorem iwX2 : ∀ w ∈ u_ws RX2 TX2 2, w ∈ es_T := by decide +kernel
theorem iwX3 : ∀ w ∈ u_ws RX3 TX3 7, w ∈ es_T := by decide +kernel
theorem iwX4 : ∀ w ∈ u_ws RX4 TX4 21, w ∈ es_T := by decide +kernel
