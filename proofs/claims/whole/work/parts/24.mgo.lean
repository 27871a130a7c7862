set_option maxHeartbeats 1000000 in
set_option maxRecDepth 100000 in
theorem lp_goOver {p : Program} {l : Launch} {e : Env} {R : Room} {s : State} {m : MethodId} {args : Array Value} {below : List Frame} {meth : Method} {c : Code} {Q : State → Prop} {A : Nat → Prop} {H0 : Heap} (D : va_G) (cI : ClassId) (mo : Nat) (ma : Nat) (mk : Nat) (mtx : Nat) (m0 : Nat) (m1 : Nat) (m2 : Nat) (m3 : Nat) (mb : Nat) (ar : Nat → Int32) (ki : Nat → Int32) (mx : Nat → Int32) (ob : Nat → Int32) (n : Nat) (tn : Nat) (fl : Int32) (fk : Int32) (ed : Nat) (tn0 : Nat) (fl0 : Int32) (n0 : Nat) (cc : Nat) (lk0 : Nat → Int32) (pl : Nat) (ou : Nat) (cn : Nat) (TT : Nat × Nat) (hx : p.tables.exec = Jvm.exec) (hb : c.code = cX4_goOver) (hml : c.maxLocals = 7) (hown : s.vm.findClass RX4 = some m.cls) (hw : ∀ w ∈ es_T, w.before args s = true) (hK : es_K D cI s) (hRm : 1 ≤ R.frames ∧ 23 ≤ R.locals) (hA : ∀ q : Nat, H0.size ≤ q → A q) (hta : es_ta ar) (htk : es_tk2 ki) (htt : es_tt mx n) (hn : n ≤ 400) (hcn : cn ≤ 16) (hchg : es_chg lk0 (es_lk mx n) n0 n pl ou cn) (hold : es_old ar ki lk0 n0 cc ob tn0 fl0) (hex : ∀ (rd : Nat) (sc : Nat) (ts : Int32) (tkd : Int32) (tl : Int32), ((rd, sc) = TT) → ∀ (H : Heap) (locs : List Loc), va_P D vwCl [(mo, .inr (4, [.ref ma, .ref mk, .ref mtx, .int (nI n), .int (nI tn), .ref m0, .ref m1, .ref m2, .ref m3, .int fl, .int fk, .int (nI tn0), .ref mb, .int fl0, .int (nI n0), .int (nI rd), .int (nI sc), .int (nI ed), .int ts, .int tkd, .int tl])), (ma, .inl (cI, 200, .inl ar)), (mk, .inl (cI, 20, .inl ki)), (mtx, .inl (cI, 400, .inl mx)), (mb, .inl (cI, 400, .inl ob))] H → va_D A [(mo, .inr (4, [.ref ma, .ref mk, .ref mtx, .int (nI n), .int (nI tn), .ref m0, .ref m1, .ref m2, .ref m3, .int fl, .int fk, .int (nI tn0), .ref mb, .int fl0, .int (nI n0), .int (nI rd), .int (nI sc), .int (nI ed), .int ts, .int tkd, .int tl])), (ma, .inl (cI, 200, .inl ar)), (mk, .inl (cI, 20, .inl ki)), (mtx, .inl (cI, 400, .inl mx)), (mb, .inl (cI, 400, .inl ob))] → va_S A H0 H locs → ∀ (ls : Array Slot), lv_has ls 7 [(0, .ref mo)] →  W p l e R s m args below meth c H locs 0 0 Q (F0 m 98 ls [])) : ∀ (N : Nat) (b : Nat) (mr : Nat) (rd : Nat) (sc : Nat) (ts : Int32) (tkd : Int32) (tl : Int32) (fu : Nat), (mr ≤ 1) → (b ≤ n) → ((mr = 1 ∧ es_go (es_stop (es_B (es_Le ar ki lk0)) cc pl ou cn) (es_Le ar ki (es_lk mx n)) (es_Lo ar (es_lk mx n)) n fu b rd sc = TT ∧ n < fu + b) ∨ (mr = 0 ∧ (rd, sc) = TT)) → (n - b + mr) < N → ∀ (H : Heap) (locs : List Loc), va_P D vwCl [(mo, .inr (4, [.ref ma, .ref mk, .ref mtx, .int (nI n), .int (nI tn), .ref m0, .ref m1, .ref m2, .ref m3, .int fl, .int fk, .int (nI tn0), .ref mb, .int fl0, .int (nI n0), .int (nI rd), .int (nI sc), .int (nI ed), .int ts, .int tkd, .int tl])), (ma, .inl (cI, 200, .inl ar)), (mk, .inl (cI, 20, .inl ki)), (mtx, .inl (cI, 400, .inl mx)), (mb, .inl (cI, 400, .inl ob))] H → va_D A [(mo, .inr (4, [.ref ma, .ref mk, .ref mtx, .int (nI n), .int (nI tn), .ref m0, .ref m1, .ref m2, .ref m3, .int fl, .int fk, .int (nI tn0), .ref mb, .int fl0, .int (nI n0), .int (nI rd), .int (nI sc), .int (nI ed), .int ts, .int tkd, .int tl])), (ma, .inl (cI, 200, .inl ar)), (mk, .inl (cI, 20, .inl ki)), (mtx, .inl (cI, 400, .inl mx)), (mb, .inl (cI, 400, .inl ob))] → va_S A H0 H locs → ∀ (ls : Array Slot), lv_has ls 7 [(0, .ref mo), (2, .int (nI pl)), (3, .int (nI ou)), (4, .int (nI cn)), (5, .int (nI b)), (6, .int (nI mr))] →  W p l e R s m args below meth c H locs 0 0 Q (F0 m 6 ls []) := by
  intro N
  induction N with
  | zero =>
    intro b mr rd sc ts tkd tl fu hmr hbn hst hN
    exact absurd hN (Nat.not_lt_zero _)
  | succ N ih =>
    intro b mr rd sc ts tkd tl fu hmr hbn hst hN H locs hP hD hS ls hl
    obtain ⟨hn0, hn1, hpo, hnn, hlk0, hlk1, hpre_, hsuf_⟩ := id hchg
    have hcc := es_cnt_n hold.1
    have htn0 : tn0 ≤ cc := by rcases hold.2.2 with h | h <;> omega
    refine lv_iload hx hb dX4_goOver_6 (lv_at hl 5 rfl) ?_
    refine lv_if_eq (tgt := 98) hx hb dX4_goOver_8 (by decide) (fun c_8 => ?_) (fun c_8 => ?_)
    ·
      have c_8 := (nI_eq (a := mr) (b := 0) (by omega) (by omega)).mp c_8
      exact hex rd sc ts tkd tl (hst.resolve_left (fun z => by omega)).2  H locs (hP.sub [0, 1, 2, 3, 4] rfl) (hD.sub [0, 1, 2, 3, 4] (by decide) rfl) hS ls (lv_sub hl [0] rfl)
    ·
      have c_8 := (mt (nI_eq (a := mr) (b := 0) (by omega) (by omega)).mpr c_8)
      have hgo := (hst.resolve_right (fun z => by omega)).2
      refine lv_iload hx hb dX4_goOver_11 (lv_at hl 4 rfl) ?_
      refine lv_aload_n hx hb dX4_goOver_13 rfl (lv_at hl 0 rfl) ?_
      refine va_get (D := D) (ci := 4) (v := .int (nI n)) (C := RX4) (T := TX4) (N := 21) hx hb hw iwX4 hown hK.1 hP 0 rfl rfl 3 (by decide) (hw _ xw_260) (fun _ h9 => h9) rfl dX4_goOver_14 ?_
      refine lv_icmp_ge (tgt := 98) hx hb dX4_goOver_17 (by decide) (fun c_17 => ?_) (fun c_17 => ?_)
      ·
        have c_17 := (nI_leI (by omega) (by omega)).mp c_17
        exact hex rd sc ts tkd tl ((es_go_end (fun z => absurd z.1 (by omega))).symm.trans hgo.1)  H locs (hP.sub [0, 1, 2, 3, 4] rfl) (hD.sub [0, 1, 2, 3, 4] (by decide) rfl) hS ls (lv_sub hl [0] rfl)
      ·
        have c_17 := (mt (nI_leI (by omega) (by omega)).mpr c_17)
        refine lv_iload hx hb dX4_goOver_20 (lv_at hl 4 rfl) ?_
        refine lv_iload_n hx hb dX4_goOver_22 rfl (lv_at hl 1 rfl) ?_
        refine lv_iload hx hb dX4_goOver_23 (lv_at hl 3 rfl) ?_
        refine lv_iadd hx hb dX4_goOver_25 ?_
        refine es_top (y := nI (pl + cn)) (nI_add _ _) ?_
        refine lv_icmp_lt (tgt := 43) hx hb dX4_goOver_26 (by decide) (fun c_26 => ?_) (fun c_26 => ?_)
        ·
          have c_26 := (nI_ltI (by omega) (by omega)).mp c_26
          have hstop : es_stop (es_B (es_Le ar ki lk0)) cc pl ou cn b = false := by
            first
            | exact es_nostop1 c_26
            | exact Bool.eq_false_iff.mpr (fun z => (erb.resolve_left (fun y => absurd (y.1.symm.trans c_40) (by decide))).2 ((es_bg hchg hcn hold (by omega) (by omega)).mpr z))
          have hLl := es_Le_lt (ar := ar) (ki := ki) (lk := es_lk mx n) (b := b) (e := n - b) (es_lk_end (by omega)) (by omega)
          refine lv_aload_n hx hb dX4_goOver_43 rfl (lv_at hl 0 rfl) ?_
          refine lv_iload hx hb dX4_goOver_44 (lv_at hl 4 rfl) ?_
          refine es_ci (wr := [(mb, .inl (cI, 400, .inl ob))]) (va_runV (As := [.int (nI b)]) (rest := []) ⟨hx, hb, hml, hown, hw⟩ (c_X4_scan l D cI H.size mo ma mk mtx m0 m1 m2 m3 mb ar ki mx n tn fl fk (nI tn0) fl0 (nI n0) rd sc ed ts tkd tl b (by first | assumption | omega) (by first | assumption | omega) (by first | assumption | omega) (by first | assumption | omega) (by first | assumption | omega)) (cwV 1 hw (es_v xw_298 xw_299 xw_300 xw_301 xw_8) rfl rfl rfl kv_X4_scan ⟨Nat.le_trans (Nat.le_of_ble_eq_true rfl) hRm.1, Nat.le_trans (Nat.le_of_ble_eq_true rfl) hRm.2⟩) (es_WV hK (hP.sub (ws' := [(mo, .inr (4, [.ref ma, .ref mk, .ref mtx, .int (nI n), .int (nI tn), .ref m0, .ref m1, .ref m2, .ref m3, .int fl, .int fk, .int (nI tn0), .ref mb, .int fl0, .int (nI n0), .int (nI rd), .int (nI sc), .int (nI ed), .int ts, .int tkd, .int tl])), (ma, .inl (cI, 200, .inl ar)), (mk, .inl (cI, 20, .inl ki)), (mtx, .inl (cI, 400, .inl mx))]) [0, 1, 2, 3] rfl) (hD.sub (ws' := [(mo, .inr (4, [.ref ma, .ref mk, .ref mtx, .int (nI n), .int (nI tn), .ref m0, .ref m1, .ref m2, .ref m3, .int fl, .int fk, .int (nI tn0), .ref mb, .int fl0, .int (nI n0), .int (nI rd), .int (nI sc), .int (nI ed), .int ts, .int tkd, .int tl])), (ma, .inl (cI, 200, .inl ar)), (mk, .inl (cI, 20, .inl ki)), (mtx, .inl (cI, 400, .inl mx))]) [0, 1, 2, 3] (by decide) rfl) rfl rfl) rfl rfl hl.1 rfl (lv_room (Nat.le_of_ble_eq_true rfl)) dX4_goOver_46 ⟨(Nat.zero_le _), (Nat.zero_le _)⟩) hP hD hS hA [0, 1, 2, 3] [4] rfl rfl (by decide) (by decide) (fun rq uq H locs huq hP hD hS => ?_)
          have hP : va_P D vwCl [(mb, .inl (cI, 400, .inl ob)), (mo, .inr (4, [.ref ma, .ref mk, .ref mtx, .int (nI n), .int (nI tn), .ref m0, .ref m1, .ref m2, .ref m3, .int fl, .int fk, .int (nI tn0), .ref mb, .int fl0, .int (nI n0), .int (nI rd), .int (nI sc), .int (nI ed), .int (nI (es_Le ar ki (es_lk mx n) b)), .int (es_Kd ar ki (es_lk mx n) b), .int (nI (es_Lo ar (es_lk mx n) b))])), (ma, .inl (cI, 200, .inl ar)), (mk, .inl (cI, 20, .inl ki)), (mtx, .inl (cI, 400, .inl mx))] H := hP
          have hD : va_D A [(mb, .inl (cI, 400, .inl ob)), (mo, .inr (4, [.ref ma, .ref mk, .ref mtx, .int (nI n), .int (nI tn), .ref m0, .ref m1, .ref m2, .ref m3, .int fl, .int fk, .int (nI tn0), .ref mb, .int fl0, .int (nI n0), .int (nI rd), .int (nI sc), .int (nI ed), .int (nI (es_Le ar ki (es_lk mx n) b)), .int (es_Kd ar ki (es_lk mx n) b), .int (nI (es_Lo ar (es_lk mx n) b))])), (ma, .inl (cI, 200, .inl ar)), (mk, .inl (cI, 20, .inl ki)), (mtx, .inl (cI, 400, .inl mx))] := hD
          obtain ⟨mr1, hm1, rfl⟩ := es_rq huq
          refine lv_istore (lv' := [(6, .int (nI mr1)), (0, .ref mo), (2, .int (nI pl)), (3, .int (nI ou)), (4, .int (nI cn)), (5, .int (nI b))]) hx hb dX4_goOver_49 hl (by decide) rfl (fun ls hl => ?_)
          refine lv_aload_n hx hb dX4_goOver_51 rfl (lv_at hl 1 rfl) ?_
          refine lv_aload_n hx hb dX4_goOver_52 rfl (lv_at hl 1 rfl) ?_
          refine va_get (D := D) (ci := 4) (v := .int (nI rd)) (C := RX4) (T := TX4) (N := 21) hx hb hw iwX4 hown hK.1 hP 1 rfl rfl 15 (by decide) (hw _ xw_275) (fun _ h9 => h9) rfl dX4_goOver_53 ?_
          refine lv_aload_n hx hb dX4_goOver_56 rfl (lv_at hl 1 rfl) ?_
          refine va_get (D := D) (ci := 4) (v := .int (nI (es_Lo ar (es_lk mx n) b))) (C := RX4) (T := TX4) (N := 21) hx hb hw iwX4 hown hK.1 hP 1 rfl rfl 20 (by decide) (hw _ xw_302) (fun _ h9 => h9) rfl dX4_goOver_57 ?_
          refine lv_iadd hx hb dX4_goOver_60 ?_
          refine es_top (y := nI (rd + (es_Lo ar (es_lk mx n) b))) (nI_add _ _) ?_
          refine va_put (D := D) (ci := 4) (v := .int (nI (rd + (es_Lo ar (es_lk mx n) b)))) (ty := .int) (C := RX4) (T := TX4) (N := 21) hx hb hw iwX4 tyX4 tyX4_ok nmX4 hown hK.1 hP hD hS 1 rfl rfl 15 (by decide) (hw _ xw_275) (fun _ h9 => h9) rfl (by decide +kernel) rfl rfl (Nat.le_of_ble_eq_true rfl) dX4_goOver_61 (fun H locs hP hD hS => ?_)
          have hP : va_P D vwCl [(mb, .inl (cI, 400, .inl ob)), (mo, .inr (4, [.ref ma, .ref mk, .ref mtx, .int (nI n), .int (nI tn), .ref m0, .ref m1, .ref m2, .ref m3, .int fl, .int fk, .int (nI tn0), .ref mb, .int fl0, .int (nI n0), .int (nI (rd + (es_Lo ar (es_lk mx n) b))), .int (nI sc), .int (nI ed), .int (nI (es_Le ar ki (es_lk mx n) b)), .int (es_Kd ar ki (es_lk mx n) b), .int (nI (es_Lo ar (es_lk mx n) b))])), (ma, .inl (cI, 200, .inl ar)), (mk, .inl (cI, 20, .inl ki)), (mtx, .inl (cI, 400, .inl mx))] H := hP
          have hD : va_D A [(mb, .inl (cI, 400, .inl ob)), (mo, .inr (4, [.ref ma, .ref mk, .ref mtx, .int (nI n), .int (nI tn), .ref m0, .ref m1, .ref m2, .ref m3, .int fl, .int fk, .int (nI tn0), .ref mb, .int fl0, .int (nI n0), .int (nI (rd + (es_Lo ar (es_lk mx n) b))), .int (nI sc), .int (nI ed), .int (nI (es_Le ar ki (es_lk mx n) b)), .int (es_Kd ar ki (es_lk mx n) b), .int (nI (es_Lo ar (es_lk mx n) b))])), (ma, .inl (cI, 200, .inl ar)), (mk, .inl (cI, 20, .inl ki)), (mtx, .inl (cI, 400, .inl mx))] := hD
          refine lv_aload_n hx hb dX4_goOver_64 rfl (lv_at hl 1 rfl) ?_
          refine lv_iload hx hb dX4_goOver_65 (lv_at hl 0 rfl) ?_
          refine lv_if_eq (tgt := 79) hx hb dX4_goOver_67 (by decide) (fun c_67 => ?_) (fun c_67 => ?_)
          ·
            have c_67 := (nI_eq (a := mr1) (b := 0) (by omega) (by omega)).mp c_67
            refine lv_aload_n hx hb dX4_goOver_79 rfl (lv_at hl 1 rfl) ?_
            refine va_get (D := D) (ci := 4) (v := .int (nI sc)) (C := RX4) (T := TX4) (N := 21) hx hb hw iwX4 hown hK.1 hP 1 rfl rfl 16 (by decide) (hw _ xw_276) (fun _ h9 => h9) rfl dX4_goOver_80 ?_
            refine va_put (D := D) (ci := 4) (v := .int (nI sc)) (ty := .int) (C := RX4) (T := TX4) (N := 21) hx hb hw iwX4 tyX4 tyX4_ok nmX4 hown hK.1 hP hD hS 1 rfl rfl 16 (by decide) (hw _ xw_276) (fun _ h9 => h9) rfl (by decide +kernel) rfl rfl (Nat.le_of_ble_eq_true rfl) dX4_goOver_83 (fun H locs hP hD hS => ?_)
            have hP : va_P D vwCl [(mb, .inl (cI, 400, .inl ob)), (mo, .inr (4, [.ref ma, .ref mk, .ref mtx, .int (nI n), .int (nI tn), .ref m0, .ref m1, .ref m2, .ref m3, .int fl, .int fk, .int (nI tn0), .ref mb, .int fl0, .int (nI n0), .int (nI (rd + (es_Lo ar (es_lk mx n) b))), .int (nI sc), .int (nI ed), .int (nI (es_Le ar ki (es_lk mx n) b)), .int (es_Kd ar ki (es_lk mx n) b), .int (nI (es_Lo ar (es_lk mx n) b))])), (ma, .inl (cI, 200, .inl ar)), (mk, .inl (cI, 20, .inl ki)), (mtx, .inl (cI, 400, .inl mx))] H := hP
            have hD : va_D A [(mb, .inl (cI, 400, .inl ob)), (mo, .inr (4, [.ref ma, .ref mk, .ref mtx, .int (nI n), .int (nI tn), .ref m0, .ref m1, .ref m2, .ref m3, .int fl, .int fk, .int (nI tn0), .ref mb, .int fl0, .int (nI n0), .int (nI (rd + (es_Lo ar (es_lk mx n) b))), .int (nI sc), .int (nI ed), .int (nI (es_Le ar ki (es_lk mx n) b)), .int (es_Kd ar ki (es_lk mx n) b), .int (nI (es_Lo ar (es_lk mx n) b))])), (ma, .inl (cI, 200, .inl ar)), (mk, .inl (cI, 20, .inl ki)), (mtx, .inl (cI, 400, .inl mx))] := hD
            refine lv_iload hx hb dX4_goOver_86 (lv_at hl 5 rfl) ?_
            refine lv_aload_n hx hb dX4_goOver_88 rfl (lv_at hl 1 rfl) ?_
            refine va_get (D := D) (ci := 4) (v := .int (nI (es_Le ar ki (es_lk mx n) b))) (C := RX4) (T := TX4) (N := 21) hx hb hw iwX4 hown hK.1 hP 1 rfl rfl 18 (by decide) (hw _ xw_303) (fun _ h9 => h9) rfl dX4_goOver_89 ?_
            refine lv_iadd hx hb dX4_goOver_92 ?_
            refine es_top (y := nI (b + (es_Le ar ki (es_lk mx n) b))) (nI_add _ _) ?_
            refine lv_istore (lv' := [(5, .int (nI (b + (es_Le ar ki (es_lk mx n) b)))), (6, .int (nI mr1)), (0, .ref mo), (2, .int (nI pl)), (3, .int (nI ou)), (4, .int (nI cn))]) hx hb dX4_goOver_93 hl (by decide) rfl (fun ls hl => ?_)
            refine lv_goto (tgt := 6) hx hb dX4_goOver_95 (by decide) ?_
            exact ih (b + (es_Le ar ki (es_lk mx n) b)) mr1 (rd + (es_Lo ar (es_lk mx n) b)) sc (nI (es_Le ar ki (es_lk mx n) b)) (es_Kd ar ki (es_lk mx n) b) (nI (es_Lo ar (es_lk mx n) b)) (fu - 1) (by omega) (by omega) (by first | exact Or.inr ⟨c_67, (es_go_fail (by omega) hstop (by omega) hgo.2).symm.trans hgo.1⟩ | exact Or.inl ⟨by omega, (es_go_step (by omega) hstop (by omega) hgo.2).1.symm.trans hgo.1, (es_go_step (Lo := es_Lo ar (es_lk mx n)) (rd := rd) (sc := sc) (by omega) hstop (by omega) hgo.2).2⟩) (by omega) H locs (hP.sub [1, 2, 3, 4, 0] rfl) (hD.sub [1, 2, 3, 4, 0] (by decide) rfl) hS ls (lv_sub hl [2, 3, 4, 5, 0, 1] rfl)
          ·
            have c_67 := (mt (nI_eq (a := mr1) (b := 0) (by omega) (by omega)).mpr c_67)
            refine lv_aload_n hx hb dX4_goOver_70 rfl (lv_at hl 1 rfl) ?_
            refine va_get (D := D) (ci := 4) (v := .int (nI sc)) (C := RX4) (T := TX4) (N := 21) hx hb hw iwX4 hown hK.1 hP 1 rfl rfl 16 (by decide) (hw _ xw_276) (fun _ h9 => h9) rfl dX4_goOver_71 ?_
            refine lv_iconst (v := nI 1) hx hb dX4_goOver_74 (by decide) ?_
            refine lv_iadd hx hb dX4_goOver_75 ?_
            refine es_top (y := nI (sc + 1)) (nI_add _ _) ?_
            refine lv_goto (tgt := 83) hx hb dX4_goOver_76 (by decide) ?_
            refine va_put (D := D) (ci := 4) (v := .int (nI (sc + 1))) (ty := .int) (C := RX4) (T := TX4) (N := 21) hx hb hw iwX4 tyX4 tyX4_ok nmX4 hown hK.1 hP hD hS 1 rfl rfl 16 (by decide) (hw _ xw_276) (fun _ h9 => h9) rfl (by decide +kernel) rfl rfl (Nat.le_of_ble_eq_true rfl) dX4_goOver_83 (fun H locs hP hD hS => ?_)
            have hP : va_P D vwCl [(mb, .inl (cI, 400, .inl ob)), (mo, .inr (4, [.ref ma, .ref mk, .ref mtx, .int (nI n), .int (nI tn), .ref m0, .ref m1, .ref m2, .ref m3, .int fl, .int fk, .int (nI tn0), .ref mb, .int fl0, .int (nI n0), .int (nI (rd + (es_Lo ar (es_lk mx n) b))), .int (nI (sc + 1)), .int (nI ed), .int (nI (es_Le ar ki (es_lk mx n) b)), .int (es_Kd ar ki (es_lk mx n) b), .int (nI (es_Lo ar (es_lk mx n) b))])), (ma, .inl (cI, 200, .inl ar)), (mk, .inl (cI, 20, .inl ki)), (mtx, .inl (cI, 400, .inl mx))] H := hP
            have hD : va_D A [(mb, .inl (cI, 400, .inl ob)), (mo, .inr (4, [.ref ma, .ref mk, .ref mtx, .int (nI n), .int (nI tn), .ref m0, .ref m1, .ref m2, .ref m3, .int fl, .int fk, .int (nI tn0), .ref mb, .int fl0, .int (nI n0), .int (nI (rd + (es_Lo ar (es_lk mx n) b))), .int (nI (sc + 1)), .int (nI ed), .int (nI (es_Le ar ki (es_lk mx n) b)), .int (es_Kd ar ki (es_lk mx n) b), .int (nI (es_Lo ar (es_lk mx n) b))])), (ma, .inl (cI, 200, .inl ar)), (mk, .inl (cI, 20, .inl ki)), (mtx, .inl (cI, 400, .inl mx))] := hD
            refine lv_iload hx hb dX4_goOver_86 (lv_at hl 5 rfl) ?_
            refine lv_aload_n hx hb dX4_goOver_88 rfl (lv_at hl 1 rfl) ?_
            refine va_get (D := D) (ci := 4) (v := .int (nI (es_Le ar ki (es_lk mx n) b))) (C := RX4) (T := TX4) (N := 21) hx hb hw iwX4 hown hK.1 hP 1 rfl rfl 18 (by decide) (hw _ xw_303) (fun _ h9 => h9) rfl dX4_goOver_89 ?_
            refine lv_iadd hx hb dX4_goOver_92 ?_
            refine es_top (y := nI (b + (es_Le ar ki (es_lk mx n) b))) (nI_add _ _) ?_
            refine lv_istore (lv' := [(5, .int (nI (b + (es_Le ar ki (es_lk mx n) b)))), (6, .int (nI mr1)), (0, .ref mo), (2, .int (nI pl)), (3, .int (nI ou)), (4, .int (nI cn))]) hx hb dX4_goOver_93 hl (by decide) rfl (fun ls hl => ?_)
            refine lv_goto (tgt := 6) hx hb dX4_goOver_95 (by decide) ?_
            exact ih (b + (es_Le ar ki (es_lk mx n) b)) mr1 (rd + (es_Lo ar (es_lk mx n) b)) (sc + 1) (nI (es_Le ar ki (es_lk mx n) b)) (es_Kd ar ki (es_lk mx n) b) (nI (es_Lo ar (es_lk mx n) b)) (fu - 1) (by omega) (by omega) (by first | exact Or.inr ⟨c_67, (es_go_fail (by omega) hstop (by omega) hgo.2).symm.trans hgo.1⟩ | exact Or.inl ⟨by omega, (es_go_step (by omega) hstop (by omega) hgo.2).1.symm.trans hgo.1, (es_go_step (Lo := es_Lo ar (es_lk mx n)) (rd := rd) (sc := sc) (by omega) hstop (by omega) hgo.2).2⟩) (by omega) H locs (hP.sub [1, 2, 3, 4, 0] rfl) (hD.sub [1, 2, 3, 4, 0] (by decide) rfl) hS ls (lv_sub hl [2, 3, 4, 5, 0, 1] rfl)
        ·
          have c_26 := (mt (nI_ltI (by omega) (by omega)).mpr c_26)
          refine lv_aload_n hx hb dX4_goOver_29 rfl (lv_at hl 0 rfl) ?_
          refine lv_iload hx hb dX4_goOver_30 (lv_at hl 4 rfl) ?_
          refine lv_iload hx hb dX4_goOver_32 (lv_at hl 3 rfl) ?_
          refine lv_isub hx hb dX4_goOver_34 ?_
          refine es_top (y := nI (b - cn)) (pk_sub (by omega)) ?_
          refine lv_iload_n hx hb dX4_goOver_35 rfl (lv_at hl 2 rfl) ?_
          refine lv_iadd hx hb dX4_goOver_36 ?_
          refine es_top (y := nI ((b - cn) + ou)) (nI_add _ _) ?_
          refine vp_callSi (va_Run.run (va_runV (As := [.int (nI ((b - cn) + ou))]) (rest := []) ⟨hx, hb, hml, hown, hw⟩ (c_X4_began l D cI mo ma mk mtx m0 m1 m2 m3 mb ob n tn fl fk fl0 (nI n0) rd sc ed ts tkd tl tn0 (nI ((b - cn) + ou)) (by first | assumption | omega)) (cwV 1 hw (es_v xw_294 xw_295 xw_296 xw_297 xw_8) rfl rfl rfl kv_X4_began ⟨Nat.le_trans (Nat.le_of_ble_eq_true rfl) hRm.1, Nat.le_trans (Nat.le_of_ble_eq_true rfl) hRm.2⟩) (es_RV hK (hP.sub (ws' := [(mo, .inr (4, [.ref ma, .ref mk, .ref mtx, .int (nI n), .int (nI tn), .ref m0, .ref m1, .ref m2, .ref m3, .int fl, .int fk, .int (nI tn0), .ref mb, .int fl0, .int (nI n0), .int (nI rd), .int (nI sc), .int (nI ed), .int ts, .int tkd, .int tl])), (mb, .inl (cI, 400, .inl ob))]) [0, 4] rfl) rfl rfl) rfl rfl hl.1 rfl (lv_room (Nat.le_of_ble_eq_true rfl)) dX4_goOver_37 ⟨(Nat.zero_le _), (Nat.zero_le _)⟩)) (fun rb erb => ?_)
          refine lv_if_ne (tgt := 98) hx hb dX4_goOver_40 (by decide) (fun c_40 => ?_) (fun c_40 => ?_)
          ·
            exact hex rd sc ts tkd tl ((es_go_end (fun z => absurd (z.2.symm.trans ((es_bg hchg hcn hold (by omega) (by omega)).mp (erb.resolve_right (fun z => c_40 z.1)).2)) (by decide))).symm.trans hgo.1)  H locs (hP.sub [0, 1, 2, 3, 4] rfl) (hD.sub [0, 1, 2, 3, 4] (by decide) rfl) hS ls (lv_sub hl [0] rfl)
          ·
            have hstop : es_stop (es_B (es_Le ar ki lk0)) cc pl ou cn b = false := by
              first
              | exact es_nostop1 c_26
              | exact Bool.eq_false_iff.mpr (fun z => (erb.resolve_left (fun y => absurd (y.1.symm.trans c_40) (by decide))).2 ((es_bg hchg hcn hold (by omega) (by omega)).mpr z))
            have hLl := es_Le_lt (ar := ar) (ki := ki) (lk := es_lk mx n) (b := b) (e := n - b) (es_lk_end (by omega)) (by omega)
            refine lv_aload_n hx hb dX4_goOver_43 rfl (lv_at hl 0 rfl) ?_
            refine lv_iload hx hb dX4_goOver_44 (lv_at hl 4 rfl) ?_
            refine es_ci (wr := [(mb, .inl (cI, 400, .inl ob))]) (va_runV (As := [.int (nI b)]) (rest := []) ⟨hx, hb, hml, hown, hw⟩ (c_X4_scan l D cI H.size mo ma mk mtx m0 m1 m2 m3 mb ar ki mx n tn fl fk (nI tn0) fl0 (nI n0) rd sc ed ts tkd tl b (by first | assumption | omega) (by first | assumption | omega) (by first | assumption | omega) (by first | assumption | omega) (by first | assumption | omega)) (cwV 1 hw (es_v xw_298 xw_299 xw_300 xw_301 xw_8) rfl rfl rfl kv_X4_scan ⟨Nat.le_trans (Nat.le_of_ble_eq_true rfl) hRm.1, Nat.le_trans (Nat.le_of_ble_eq_true rfl) hRm.2⟩) (es_WV hK (hP.sub (ws' := [(mo, .inr (4, [.ref ma, .ref mk, .ref mtx, .int (nI n), .int (nI tn), .ref m0, .ref m1, .ref m2, .ref m3, .int fl, .int fk, .int (nI tn0), .ref mb, .int fl0, .int (nI n0), .int (nI rd), .int (nI sc), .int (nI ed), .int ts, .int tkd, .int tl])), (ma, .inl (cI, 200, .inl ar)), (mk, .inl (cI, 20, .inl ki)), (mtx, .inl (cI, 400, .inl mx))]) [0, 1, 2, 3] rfl) (hD.sub (ws' := [(mo, .inr (4, [.ref ma, .ref mk, .ref mtx, .int (nI n), .int (nI tn), .ref m0, .ref m1, .ref m2, .ref m3, .int fl, .int fk, .int (nI tn0), .ref mb, .int fl0, .int (nI n0), .int (nI rd), .int (nI sc), .int (nI ed), .int ts, .int tkd, .int tl])), (ma, .inl (cI, 200, .inl ar)), (mk, .inl (cI, 20, .inl ki)), (mtx, .inl (cI, 400, .inl mx))]) [0, 1, 2, 3] (by decide) rfl) rfl rfl) rfl rfl hl.1 rfl (lv_room (Nat.le_of_ble_eq_true rfl)) dX4_goOver_46 ⟨(Nat.zero_le _), (Nat.zero_le _)⟩) hP hD hS hA [0, 1, 2, 3] [4] rfl rfl (by decide) (by decide) (fun rq uq H locs huq hP hD hS => ?_)
            have hP : va_P D vwCl [(mb, .inl (cI, 400, .inl ob)), (mo, .inr (4, [.ref ma, .ref mk, .ref mtx, .int (nI n), .int (nI tn), .ref m0, .ref m1, .ref m2, .ref m3, .int fl, .int fk, .int (nI tn0), .ref mb, .int fl0, .int (nI n0), .int (nI rd), .int (nI sc), .int (nI ed), .int (nI (es_Le ar ki (es_lk mx n) b)), .int (es_Kd ar ki (es_lk mx n) b), .int (nI (es_Lo ar (es_lk mx n) b))])), (ma, .inl (cI, 200, .inl ar)), (mk, .inl (cI, 20, .inl ki)), (mtx, .inl (cI, 400, .inl mx))] H := hP
            have hD : va_D A [(mb, .inl (cI, 400, .inl ob)), (mo, .inr (4, [.ref ma, .ref mk, .ref mtx, .int (nI n), .int (nI tn), .ref m0, .ref m1, .ref m2, .ref m3, .int fl, .int fk, .int (nI tn0), .ref mb, .int fl0, .int (nI n0), .int (nI rd), .int (nI sc), .int (nI ed), .int (nI (es_Le ar ki (es_lk mx n) b)), .int (es_Kd ar ki (es_lk mx n) b), .int (nI (es_Lo ar (es_lk mx n) b))])), (ma, .inl (cI, 200, .inl ar)), (mk, .inl (cI, 20, .inl ki)), (mtx, .inl (cI, 400, .inl mx))] := hD
            obtain ⟨mr1, hm1, rfl⟩ := es_rq huq
            refine lv_istore (lv' := [(6, .int (nI mr1)), (0, .ref mo), (2, .int (nI pl)), (3, .int (nI ou)), (4, .int (nI cn)), (5, .int (nI b))]) hx hb dX4_goOver_49 hl (by decide) rfl (fun ls hl => ?_)
            refine lv_aload_n hx hb dX4_goOver_51 rfl (lv_at hl 1 rfl) ?_
            refine lv_aload_n hx hb dX4_goOver_52 rfl (lv_at hl 1 rfl) ?_
            refine va_get (D := D) (ci := 4) (v := .int (nI rd)) (C := RX4) (T := TX4) (N := 21) hx hb hw iwX4 hown hK.1 hP 1 rfl rfl 15 (by decide) (hw _ xw_275) (fun _ h9 => h9) rfl dX4_goOver_53 ?_
            refine lv_aload_n hx hb dX4_goOver_56 rfl (lv_at hl 1 rfl) ?_
            refine va_get (D := D) (ci := 4) (v := .int (nI (es_Lo ar (es_lk mx n) b))) (C := RX4) (T := TX4) (N := 21) hx hb hw iwX4 hown hK.1 hP 1 rfl rfl 20 (by decide) (hw _ xw_302) (fun _ h9 => h9) rfl dX4_goOver_57 ?_
            refine lv_iadd hx hb dX4_goOver_60 ?_
            refine es_top (y := nI (rd + (es_Lo ar (es_lk mx n) b))) (nI_add _ _) ?_
            refine va_put (D := D) (ci := 4) (v := .int (nI (rd + (es_Lo ar (es_lk mx n) b)))) (ty := .int) (C := RX4) (T := TX4) (N := 21) hx hb hw iwX4 tyX4 tyX4_ok nmX4 hown hK.1 hP hD hS 1 rfl rfl 15 (by decide) (hw _ xw_275) (fun _ h9 => h9) rfl (by decide +kernel) rfl rfl (Nat.le_of_ble_eq_true rfl) dX4_goOver_61 (fun H locs hP hD hS => ?_)
            have hP : va_P D vwCl [(mb, .inl (cI, 400, .inl ob)), (mo, .inr (4, [.ref ma, .ref mk, .ref mtx, .int (nI n), .int (nI tn), .ref m0, .ref m1, .ref m2, .ref m3, .int fl, .int fk, .int (nI tn0), .ref mb, .int fl0, .int (nI n0), .int (nI (rd + (es_Lo ar (es_lk mx n) b))), .int (nI sc), .int (nI ed), .int (nI (es_Le ar ki (es_lk mx n) b)), .int (es_Kd ar ki (es_lk mx n) b), .int (nI (es_Lo ar (es_lk mx n) b))])), (ma, .inl (cI, 200, .inl ar)), (mk, .inl (cI, 20, .inl ki)), (mtx, .inl (cI, 400, .inl mx))] H := hP
            have hD : va_D A [(mb, .inl (cI, 400, .inl ob)), (mo, .inr (4, [.ref ma, .ref mk, .ref mtx, .int (nI n), .int (nI tn), .ref m0, .ref m1, .ref m2, .ref m3, .int fl, .int fk, .int (nI tn0), .ref mb, .int fl0, .int (nI n0), .int (nI (rd + (es_Lo ar (es_lk mx n) b))), .int (nI sc), .int (nI ed), .int (nI (es_Le ar ki (es_lk mx n) b)), .int (es_Kd ar ki (es_lk mx n) b), .int (nI (es_Lo ar (es_lk mx n) b))])), (ma, .inl (cI, 200, .inl ar)), (mk, .inl (cI, 20, .inl ki)), (mtx, .inl (cI, 400, .inl mx))] := hD
            refine lv_aload_n hx hb dX4_goOver_64 rfl (lv_at hl 1 rfl) ?_
            refine lv_iload hx hb dX4_goOver_65 (lv_at hl 0 rfl) ?_
            refine lv_if_eq (tgt := 79) hx hb dX4_goOver_67 (by decide) (fun c_67 => ?_) (fun c_67 => ?_)
            ·
              have c_67 := (nI_eq (a := mr1) (b := 0) (by omega) (by omega)).mp c_67
              refine lv_aload_n hx hb dX4_goOver_79 rfl (lv_at hl 1 rfl) ?_
              refine va_get (D := D) (ci := 4) (v := .int (nI sc)) (C := RX4) (T := TX4) (N := 21) hx hb hw iwX4 hown hK.1 hP 1 rfl rfl 16 (by decide) (hw _ xw_276) (fun _ h9 => h9) rfl dX4_goOver_80 ?_
              refine va_put (D := D) (ci := 4) (v := .int (nI sc)) (ty := .int) (C := RX4) (T := TX4) (N := 21) hx hb hw iwX4 tyX4 tyX4_ok nmX4 hown hK.1 hP hD hS 1 rfl rfl 16 (by decide) (hw _ xw_276) (fun _ h9 => h9) rfl (by decide +kernel) rfl rfl (Nat.le_of_ble_eq_true rfl) dX4_goOver_83 (fun H locs hP hD hS => ?_)
              have hP : va_P D vwCl [(mb, .inl (cI, 400, .inl ob)), (mo, .inr (4, [.ref ma, .ref mk, .ref mtx, .int (nI n), .int (nI tn), .ref m0, .ref m1, .ref m2, .ref m3, .int fl, .int fk, .int (nI tn0), .ref mb, .int fl0, .int (nI n0), .int (nI (rd + (es_Lo ar (es_lk mx n) b))), .int (nI sc), .int (nI ed), .int (nI (es_Le ar ki (es_lk mx n) b)), .int (es_Kd ar ki (es_lk mx n) b), .int (nI (es_Lo ar (es_lk mx n) b))])), (ma, .inl (cI, 200, .inl ar)), (mk, .inl (cI, 20, .inl ki)), (mtx, .inl (cI, 400, .inl mx))] H := hP
              have hD : va_D A [(mb, .inl (cI, 400, .inl ob)), (mo, .inr (4, [.ref ma, .ref mk, .ref mtx, .int (nI n), .int (nI tn), .ref m0, .ref m1, .ref m2, .ref m3, .int fl, .int fk, .int (nI tn0), .ref mb, .int fl0, .int (nI n0), .int (nI (rd + (es_Lo ar (es_lk mx n) b))), .int (nI sc), .int (nI ed), .int (nI (es_Le ar ki (es_lk mx n) b)), .int (es_Kd ar ki (es_lk mx n) b), .int (nI (es_Lo ar (es_lk mx n) b))])), (ma, .inl (cI, 200, .inl ar)), (mk, .inl (cI, 20, .inl ki)), (mtx, .inl (cI, 400, .inl mx))] := hD
              refine lv_iload hx hb dX4_goOver_86 (lv_at hl 5 rfl) ?_
              refine lv_aload_n hx hb dX4_goOver_88 rfl (lv_at hl 1 rfl) ?_
              refine va_get (D := D) (ci := 4) (v := .int (nI (es_Le ar ki (es_lk mx n) b))) (C := RX4) (T := TX4) (N := 21) hx hb hw iwX4 hown hK.1 hP 1 rfl rfl 18 (by decide) (hw _ xw_303) (fun _ h9 => h9) rfl dX4_goOver_89 ?_
              refine lv_iadd hx hb dX4_goOver_92 ?_
              refine es_top (y := nI (b + (es_Le ar ki (es_lk mx n) b))) (nI_add _ _) ?_
              refine lv_istore (lv' := [(5, .int (nI (b + (es_Le ar ki (es_lk mx n) b)))), (6, .int (nI mr1)), (0, .ref mo), (2, .int (nI pl)), (3, .int (nI ou)), (4, .int (nI cn))]) hx hb dX4_goOver_93 hl (by decide) rfl (fun ls hl => ?_)
              refine lv_goto (tgt := 6) hx hb dX4_goOver_95 (by decide) ?_
              exact ih (b + (es_Le ar ki (es_lk mx n) b)) mr1 (rd + (es_Lo ar (es_lk mx n) b)) sc (nI (es_Le ar ki (es_lk mx n) b)) (es_Kd ar ki (es_lk mx n) b) (nI (es_Lo ar (es_lk mx n) b)) (fu - 1) (by omega) (by omega) (by first | exact Or.inr ⟨c_67, (es_go_fail (by omega) hstop (by omega) hgo.2).symm.trans hgo.1⟩ | exact Or.inl ⟨by omega, (es_go_step (by omega) hstop (by omega) hgo.2).1.symm.trans hgo.1, (es_go_step (Lo := es_Lo ar (es_lk mx n)) (rd := rd) (sc := sc) (by omega) hstop (by omega) hgo.2).2⟩) (by omega) H locs (hP.sub [1, 2, 3, 4, 0] rfl) (hD.sub [1, 2, 3, 4, 0] (by decide) rfl) hS ls (lv_sub hl [2, 3, 4, 5, 0, 1] rfl)
            ·
              have c_67 := (mt (nI_eq (a := mr1) (b := 0) (by omega) (by omega)).mpr c_67)
              refine lv_aload_n hx hb dX4_goOver_70 rfl (lv_at hl 1 rfl) ?_
              refine va_get (D := D) (ci := 4) (v := .int (nI sc)) (C := RX4) (T := TX4) (N := 21) hx hb hw iwX4 hown hK.1 hP 1 rfl rfl 16 (by decide) (hw _ xw_276) (fun _ h9 => h9) rfl dX4_goOver_71 ?_
              refine lv_iconst (v := nI 1) hx hb dX4_goOver_74 (by decide) ?_
              refine lv_iadd hx hb dX4_goOver_75 ?_
              refine es_top (y := nI (sc + 1)) (nI_add _ _) ?_
              refine lv_goto (tgt := 83) hx hb dX4_goOver_76 (by decide) ?_
              refine va_put (D := D) (ci := 4) (v := .int (nI (sc + 1))) (ty := .int) (C := RX4) (T := TX4) (N := 21) hx hb hw iwX4 tyX4 tyX4_ok nmX4 hown hK.1 hP hD hS 1 rfl rfl 16 (by decide) (hw _ xw_276) (fun _ h9 => h9) rfl (by decide +kernel) rfl rfl (Nat.le_of_ble_eq_true rfl) dX4_goOver_83 (fun H locs hP hD hS => ?_)
              have hP : va_P D vwCl [(mb, .inl (cI, 400, .inl ob)), (mo, .inr (4, [.ref ma, .ref mk, .ref mtx, .int (nI n), .int (nI tn), .ref m0, .ref m1, .ref m2, .ref m3, .int fl, .int fk, .int (nI tn0), .ref mb, .int fl0, .int (nI n0), .int (nI (rd + (es_Lo ar (es_lk mx n) b))), .int (nI (sc + 1)), .int (nI ed), .int (nI (es_Le ar ki (es_lk mx n) b)), .int (es_Kd ar ki (es_lk mx n) b), .int (nI (es_Lo ar (es_lk mx n) b))])), (ma, .inl (cI, 200, .inl ar)), (mk, .inl (cI, 20, .inl ki)), (mtx, .inl (cI, 400, .inl mx))] H := hP
              have hD : va_D A [(mb, .inl (cI, 400, .inl ob)), (mo, .inr (4, [.ref ma, .ref mk, .ref mtx, .int (nI n), .int (nI tn), .ref m0, .ref m1, .ref m2, .ref m3, .int fl, .int fk, .int (nI tn0), .ref mb, .int fl0, .int (nI n0), .int (nI (rd + (es_Lo ar (es_lk mx n) b))), .int (nI (sc + 1)), .int (nI ed), .int (nI (es_Le ar ki (es_lk mx n) b)), .int (es_Kd ar ki (es_lk mx n) b), .int (nI (es_Lo ar (es_lk mx n) b))])), (ma, .inl (cI, 200, .inl ar)), (mk, .inl (cI, 20, .inl ki)), (mtx, .inl (cI, 400, .inl mx))] := hD
              refine lv_iload hx hb dX4_goOver_86 (lv_at hl 5 rfl) ?_
              refine lv_aload_n hx hb dX4_goOver_88 rfl (lv_at hl 1 rfl) ?_
              refine va_get (D := D) (ci := 4) (v := .int (nI (es_Le ar ki (es_lk mx n) b))) (C := RX4) (T := TX4) (N := 21) hx hb hw iwX4 hown hK.1 hP 1 rfl rfl 18 (by decide) (hw _ xw_303) (fun _ h9 => h9) rfl dX4_goOver_89 ?_
              refine lv_iadd hx hb dX4_goOver_92 ?_
              refine es_top (y := nI (b + (es_Le ar ki (es_lk mx n) b))) (nI_add _ _) ?_
              refine lv_istore (lv' := [(5, .int (nI (b + (es_Le ar ki (es_lk mx n) b)))), (6, .int (nI mr1)), (0, .ref mo), (2, .int (nI pl)), (3, .int (nI ou)), (4, .int (nI cn))]) hx hb dX4_goOver_93 hl (by decide) rfl (fun ls hl => ?_)
              refine lv_goto (tgt := 6) hx hb dX4_goOver_95 (by decide) ?_
              exact ih (b + (es_Le ar ki (es_lk mx n) b)) mr1 (rd + (es_Lo ar (es_lk mx n) b)) (sc + 1) (nI (es_Le ar ki (es_lk mx n) b)) (es_Kd ar ki (es_lk mx n) b) (nI (es_Lo ar (es_lk mx n) b)) (fu - 1) (by omega) (by omega) (by first | exact Or.inr ⟨c_67, (es_go_fail (by omega) hstop (by omega) hgo.2).symm.trans hgo.1⟩ | exact Or.inl ⟨by omega, (es_go_step (by omega) hstop (by omega) hgo.2).1.symm.trans hgo.1, (es_go_step (Lo := es_Lo ar (es_lk mx n)) (rd := rd) (sc := sc) (by omega) hstop (by omega) hgo.2).2⟩) (by omega) H locs (hP.sub [1, 2, 3, 4, 0] rfl) (hD.sub [1, 2, 3, 4, 0] (by decide) rfl) hS ls (lv_sub hl [2, 3, 4, 5, 0, 1] rfl)
set_option maxHeartbeats 1000000 in
set_option maxRecDepth 100000 in
/-- X4.goOver  -/
theorem c_X4_goOver (l : Launch) (D : va_G) (cI : ClassId) (sz : Nat) (mo : Nat) (ma : Nat) (mk : Nat) (mtx : Nat) (m0 : Nat) (m1 : Nat) (m2 : Nat) (m3 : Nat) (mb : Nat) (ar : Nat → Int32) (ki : Nat → Int32) (mx : Nat → Int32) (ob : Nat → Int32) (n : Nat) (tn : Nat) (fl : Int32) (fk : Int32) (ed : Nat) (tn0 : Nat) (fl0 : Int32) (n0 : Nat) (cc : Nat) (lk0 : Nat → Int32) (pl : Nat) (ou : Nat) (cn : Nat) (b0 : Nat) (ts : Int32) (tkd : Int32) (tl : Int32) (hta : es_ta ar) (htk : es_tk2 ki) (htt : es_tt mx n) (hn : n ≤ 400) (hcn : cn ≤ 16) (hchg : es_chg lk0 (es_lk mx n) n0 n pl ou cn) (hold : es_old ar ki lk0 n0 cc ob tn0 fl0) (hb0 : b0 ≤ n) : Met l yX4_goOver (Cond.code yX4_goOver cX4_goOver 7 none :: es_T) { frames := 1, cells := 0, slots := 0, locals := 23 } (va_Pc [.ref mo, .int (nI b0), .int (nI pl), .int (nI ou), .int (nI cn)] (es_W D cI sz [(mo, .inr (4, [.ref ma, .ref mk, .ref mtx, .int (nI n), .int (nI tn), .ref m0, .ref m1, .ref m2, .ref m3, .int fl, .int fk, .int (nI tn0), .ref mb, .int fl0, .int (nI n0), .int (nI 0), .int (nI 0), .int (nI ed), .int ts, .int tkd, .int tl])), (ma, .inl (cI, 200, .inl ar)), (mk, .inl (cI, 20, .inl ki)), (mtx, .inl (cI, 400, .inl mx)), (mb, .inl (cI, 400, .inl ob))])) (va_Qv (fun u => (u.1, u.2.1) = es_go (es_stop (es_B (es_Le ar ki lk0)) cc pl ou cn) (es_Le ar ki (es_lk mx n)) (es_Lo ar (es_lk mx n)) n (n + 1) b0 0 0) (fun (u : Nat × Nat × Int32 × Int32 × Int32) zt => va_P D vwCl [(mo, .inr (4, [.ref ma, .ref mk, .ref mtx, .int (nI n), .int (nI tn), .ref m0, .ref m1, .ref m2, .ref m3, .int fl, .int fk, .int (nI tn0), .ref mb, .int fl0, .int (nI n0), .int (nI u.1), .int (nI u.2.1), .int (nI ed), .int u.2.2.1, .int u.2.2.2.1, .int u.2.2.2.2])), (ma, .inl (cI, 200, .inl ar)), (mk, .inl (cI, 20, .inl ki)), (mtx, .inl (cI, 400, .inl mx)), (mb, .inl (cI, 400, .inl ob))] zt.heap ∧ va_D (va_A [(mo, .inr (4, [.ref ma, .ref mk, .ref mtx, .int (nI n), .int (nI tn), .ref m0, .ref m1, .ref m2, .ref m3, .int fl, .int fk, .int (nI tn0), .ref mb, .int fl0, .int (nI n0), .int (nI 0), .int (nI 0), .int (nI ed), .int ts, .int tkd, .int tl])), (ma, .inl (cI, 200, .inl ar)), (mk, .inl (cI, 20, .inl ki)), (mtx, .inl (cI, 400, .inl mx)), (mb, .inl (cI, 400, .inl ob))] sz) [(mo, .inr (4, [.ref ma, .ref mk, .ref mtx, .int (nI n), .int (nI tn), .ref m0, .ref m1, .ref m2, .ref m3, .int fl, .int fk, .int (nI tn0), .ref mb, .int fl0, .int (nI n0), .int (nI u.1), .int (nI u.2.1), .int (nI ed), .int u.2.2.1, .int u.2.2.2.1, .int u.2.2.2.2])), (ma, .inl (cI, 200, .inl ar)), (mk, .inl (cI, 20, .inl ki)), (mtx, .inl (cI, 400, .inl mx)), (mb, .inl (cI, 400, .inl ob))]) (va_A [(mo, .inr (4, [.ref ma, .ref mk, .ref mtx, .int (nI n), .int (nI tn), .ref m0, .ref m1, .ref m2, .ref m3, .int fl, .int fk, .int (nI tn0), .ref mb, .int fl0, .int (nI n0), .int (nI 0), .int (nI 0), .int (nI ed), .int ts, .int tkd, .int tl])), (ma, .inl (cI, 200, .inl ar)), (mk, .inl (cI, 20, .inl ki)), (mtx, .inl (cI, 400, .inl mx)), (mb, .inl (cI, 400, .inl ob))] sz)) 0 0 (va_A [(mo, .inr (4, [.ref ma, .ref mk, .ref mtx, .int (nI n), .int (nI tn), .ref m0, .ref m1, .ref m2, .ref m3, .int fl, .int fk, .int (nI tn0), .ref mb, .int fl0, .int (nI n0), .int (nI 0), .int (nI 0), .int (nI ed), .int ts, .int tkd, .int tl])), (ma, .inl (cI, 200, .inl ar)), (mk, .inl (cI, 20, .inl ki)), (mtx, .inl (cI, 400, .inl mx)), (mb, .inl (cI, 400, .inl ob))] sz) := by
  refine Met.ofW (cc := cX4_goOver) (maxL := 7) (ret := none) (by decide) rfl ?_
  intro p e s m args below meth c s₁ B hml hv
  obtain ⟨rfl, hsz, hP, hK, hD0⟩ := hv
  have hx := B.exec
  have hb := B.bytes
  have hr := B.returns
  have hts := atoms_spec (ws := (Cond.code yX4_goOver cX4_goOver 7 none :: es_T)) B.pre
  have hw : ∀ w ∈ es_T, w.before _ s = true := fun w h => hts w (List.mem_cons_of_mem _ h)
  have hown : s.vm.findClass RX4 = some m.cls := findClass_of_methodNamed B.named
  have hlocks := B.notSynchronized
  have hRm : 1 ≤ (headSpec (Cond.code yX4_goOver cX4_goOver 7 none :: es_T) { frames := 1, cells := 0, slots := 0, locals := 23 }).room.frames ∧ 23 ≤ (headSpec (Cond.code yX4_goOver cX4_goOver 7 none :: es_T) { frames := 1, cells := 0, slots := 0, locals := 23 }).room.locals := ⟨Nat.le_refl _, Nat.le_refl _⟩
  have hRc : 0 ≤ (headSpec (Cond.code yX4_goOver cX4_goOver 7 none :: es_T) { frames := 1, cells := 0, slots := 0, locals := 23 }).room.cells ∧ 0 ≤ (headSpec (Cond.code yX4_goOver cX4_goOver 7 none :: es_T) { frames := 1, cells := 0, slots := 0, locals := 23 }).room.slots := ⟨Nat.le_refl _, Nat.le_refl _⟩
  subst hsz
  have hD := hD0.self (sz := s.heap.size)
  generalize hAe : va_A [(mo, .inr (4, [.ref ma, .ref mk, .ref mtx, .int (nI n), .int (nI tn), .ref m0, .ref m1, .ref m2, .ref m3, .int fl, .int fk, .int (nI tn0), .ref mb, .int fl0, .int (nI n0), .int (nI 0), .int (nI 0), .int (nI ed), .int ts, .int tkd, .int tl])), (ma, .inl (cI, 200, .inl ar)), (mk, .inl (cI, 20, .inl ki)), (mtx, .inl (cI, 400, .inl mx)), (mb, .inl (cI, 400, .inl ob))] s.heap.size = A at hD ⊢
  have hA : ∀ q : Nat, s.heap.size ≤ q → A q := fun q h => by rw [← hAe]; exact Or.inr h
  have hS : va_S A s.heap s.heap [] := va_S.rf
  have hl := lv_entry ([.ref mo, .int (nI b0), .int (nI pl), .int (nI ou), .int (nI cn)]) (n := 7) (Nat.le_of_ble_eq_true rfl)
  rw [lg_entry_eq]
  generalize (lg_sl ([.ref mo, .int (nI b0), .int (nI pl), .int (nI ou), .int (nI cn)]) ++ List.replicate (7 - (lg_sl ([.ref mo, .int (nI b0), .int (nI pl), .int (nI ou), .int (nI cn)])).length) Slot.unset).toArray = ls at hl ⊢
  have hl : lv_has ls 7 [(0, .ref mo), (1, .int (nI b0)), (2, .int (nI pl)), (3, .int (nI ou)), (4, .int (nI cn))] := hl
  refine lv_iload_n hx hb dX4_goOver_0 rfl (lv_at hl 1 rfl) ?_
  refine lv_istore (lv' := [(5, .int (nI b0)), (0, .ref mo), (1, .int (nI b0)), (2, .int (nI pl)), (3, .int (nI ou)), (4, .int (nI cn))]) hx hb dX4_goOver_1 hl (by decide) rfl (fun ls hl => ?_)
  refine lv_iconst (v := nI 1) hx hb dX4_goOver_3 (by decide) ?_
  refine lv_istore (lv' := [(6, .int (nI 1)), (5, .int (nI b0)), (0, .ref mo), (1, .int (nI b0)), (2, .int (nI pl)), (3, .int (nI ou)), (4, .int (nI cn))]) hx hb dX4_goOver_4 hl (by decide) rfl (fun ls hl => ?_)
  refine lp_goOver D cI mo ma mk mtx m0 m1 m2 m3 mb ar ki mx ob n tn fl fk ed tn0 fl0 n0 cc lk0 pl ou cn (es_go (es_stop (es_B (es_Le ar ki lk0)) cc pl ou cn) (es_Le ar ki (es_lk mx n)) (es_Lo ar (es_lk mx n)) n (n + 1) b0 0 0) hx hb hml hown hw hK ⟨Nat.le_trans (Nat.le_of_ble_eq_true rfl) hRm.1, Nat.le_trans (Nat.le_of_ble_eq_true rfl) hRm.2⟩ hA (by first | assumption | omega) (by first | assumption | omega) (by first | assumption | omega) (by first | assumption | omega) (by first | assumption | omega) (by first | assumption | omega) (by first | assumption | omega) (fun rd sc ts tkd tl hT H locs hP hD hS ls hl => ?_) ((n - b0 + 1) + 1) b0 1 0 0 ts tkd tl (n + 1) (Nat.le_refl 1) hb0 (Or.inl ⟨rfl, rfl, by omega⟩) (Nat.lt_succ_self _) s.heap [] (hP.sub [0, 1, 2, 3, 4] rfl) (hD.sub [0, 1, 2, 3, 4] (by decide) rfl) hS ls (lv_sub hl [2, 4, 5, 6, 1, 0] rfl)
  exact W.vret hx hb hr (fun zt ht hW => ⟨⟨(rd, sc, ts, tkd, tl), rfl, hT, ⟨by rw [ht]; exact hP.sub [0, 1, 2, 3, 4] rfl, hD.sub [0, 1, 2, 3, 4] (by decide) rfl⟩⟩, hS.F ht⟩) hS.2.2 dX4_goOver_98
set_option maxHeartbeats 1000000 in
set_option maxRecDepth 100000 in
theorem lp_chgA {p : Program} {l : Launch} {e : Env} {R : Room} {s : State} {m : MethodId} {args : Array Value} {below : List Frame} {meth : Method} {c : Code} {Q : State → Prop} {A : Nat → Prop} {H0 : Heap} (D : va_G) (cI : ClassId) (mo : Nat) (ma : Nat) (mk : Nat) (mtx : Nat) (m0 : Nat) (m1 : Nat) (m2 : Nat) (m3 : Nat) (mb : Nat) (mx : Nat → Int32) (n : Nat) (tn : Nat) (fl : Int32) (fk : Int32) (ot : Int32) (of_ : Int32) (os_ : Int32) (rd : Nat) (sc : Nat) (ed : Nat) (ts : Int32) (tkd : Int32) (tl : Int32) (pl : Nat) (ou : Nat) (sy : Int64) (cn : Nat) (hx : p.tables.exec = Jvm.exec) (hb : c.code = cX4_change) (hml : c.maxLocals = 8) (hown : s.vm.findClass RX4 = some m.cls) (hw : ∀ w ∈ es_T, w.before args s = true) (hK : es_K D cI s) (hRm : 0 ≤ R.frames ∧ 0 ≤ R.locals) (hA : ∀ q : Nat, H0.size ≤ q → A q) (hn : n ≤ 400) (h1 : pl + ou ≤ n) (h2 : cn ≤ 16) (h3 : n - ou + cn ≤ 400) (hlt : ou < cn) (hex : ∀ (E : Nat → Int32), (es_mvd2 mx E (pl + cn) (n - ou + cn) pl cn ou) → ∀ (H : Heap) (locs : List Loc), va_P D vwCl [(mo, .inr (4, [.ref ma, .ref mk, .ref mtx, .int (nI n), .int (nI tn), .ref m0, .ref m1, .ref m2, .ref m3, .int fl, .int fk, .int ot, .ref mb, .int of_, .int os_, .int (nI rd), .int (nI sc), .int (nI ed), .int ts, .int tkd, .int tl])), (mtx, .inl (cI, 400, .inl E))] H → va_D A [(mo, .inr (4, [.ref ma, .ref mk, .ref mtx, .int (nI n), .int (nI tn), .ref m0, .ref m1, .ref m2, .ref m3, .int fl, .int fk, .int ot, .ref mb, .int of_, .int os_, .int (nI rd), .int (nI sc), .int (nI ed), .int ts, .int tkd, .int tl])), (mtx, .inl (cI, 400, .inl E))] → va_S A H0 H locs → ∀ (ls : Array Slot), lv_has ls 8 [(0, .ref mo), (1, .int (nI pl)), (2, .int (nI ou)), (3, .long sy), (5, .int (nI cn)), (6, .int (nI (n - ou + cn)))] →  W p l e R s m args below meth c H locs 0 0 Q (F0 m 57 ls [])) : ∀ (N : Nat) (kk : Nat) (E : Nat → Int32), (pl + cn ≤ kk + 1) → (kk < n - ou + cn) → (es_mvA mx E (pl + cn) (kk + 1) (n - ou + cn) cn ou) → kk < N → ∀ (H : Heap) (locs : List Loc), va_P D vwCl [(mo, .inr (4, [.ref ma, .ref mk, .ref mtx, .int (nI n), .int (nI tn), .ref m0, .ref m1, .ref m2, .ref m3, .int fl, .int fk, .int ot, .ref mb, .int of_, .int os_, .int (nI rd), .int (nI sc), .int (nI ed), .int ts, .int tkd, .int tl])), (mtx, .inl (cI, 400, .inl E))] H → va_D A [(mo, .inr (4, [.ref ma, .ref mk, .ref mtx, .int (nI n), .int (nI tn), .ref m0, .ref m1, .ref m2, .ref m3, .int fl, .int fk, .int ot, .ref mb, .int of_, .int os_, .int (nI rd), .int (nI sc), .int (nI ed), .int ts, .int tkd, .int tl])), (mtx, .inl (cI, 400, .inl E))] → va_S A H0 H locs → ∀ (ls : Array Slot), lv_has ls 8 [(0, .ref mo), (1, .int (nI pl)), (2, .int (nI ou)), (3, .long sy), (5, .int (nI cn)), (6, .int (nI (n - ou + cn))), (7, .int (nI kk))] →  W p l e R s m args below meth c H locs 0 0 Q (F0 m 23 ls []) := by
  intro N
  induction N with
  | zero =>
    intro kk E hk hk2 hE hN
    exact absurd hN (Nat.not_lt_zero _)
  | succ N ih =>
    intro kk E hk hk2 hE hN H locs hP hD hS ls hl
    refine lv_iload hx hb dX4_change_23 (lv_at hl 6 rfl) ?_
    refine lv_iload_n hx hb dX4_change_25 rfl (lv_at hl 1 rfl) ?_
    refine lv_iload hx hb dX4_change_26 (lv_at hl 4 rfl) ?_
    refine lv_iadd hx hb dX4_change_28 ?_
    refine es_top (y := nI (pl + cn)) (nI_add _ _) ?_
    refine lv_icmp_lt (tgt := 57) hx hb dX4_change_29 (by decide) (fun c_29 => ?_) (fun c_29 => ?_)
    ·
      have c_29 := (nI_ltI (by omega) (by omega)).mp c_29
      exact hex E ⟨fun j hj => hE.1 j (by omega), fun j h1 h2 => hE.2.2 j (by omega) h1 h2⟩  H locs (hP.sub [0, 1] rfl) (hD.sub [0, 1] (by decide) rfl) hS ls (lv_sub hl [0, 1, 2, 3, 4, 5] rfl)
    ·
      have c_29 := (mt (nI_ltI (by omega) (by omega)).mpr c_29)
      refine lv_aload_n hx hb dX4_change_32 rfl (lv_at hl 0 rfl) ?_
      refine va_get (D := D) (ci := 4) (v := .ref mtx) (C := RX4) (T := TX4) (N := 21) hx hb hw iwX4 hown hK.1 hP 0 rfl rfl 2 (by decide) (hw _ xw_266) (fun _ h9 => h9) rfl dX4_change_33 ?_
      refine lv_iload hx hb dX4_change_36 (lv_at hl 6 rfl) ?_
      refine lv_aload_n hx hb dX4_change_38 rfl (lv_at hl 0 rfl) ?_
      refine va_get (D := D) (ci := 4) (v := .ref mtx) (C := RX4) (T := TX4) (N := 21) hx hb hw iwX4 hown hK.1 hP 0 rfl rfl 2 (by decide) (hw _ xw_266) (fun _ h9 => h9) rfl dX4_change_39 ?_
      refine lv_iload hx hb dX4_change_42 (lv_at hl 6 rfl) ?_
      refine lv_iload hx hb dX4_change_44 (lv_at hl 4 rfl) ?_
      refine lv_isub hx hb dX4_change_46 ?_
      refine es_top (y := nI (kk - cn)) (pk_sub (by omega)) ?_
      refine lv_iload_n hx hb dX4_change_47 rfl (lv_at hl 2 rfl) ?_
      refine lv_iadd hx hb dX4_change_48 ?_
      refine es_top (y := nI ((kk - cn) + ou)) (nI_add _ _) ?_
      refine es_iald hx hb hK.1 hP 1 0 rfl rfl (by omega) (Nat.le_of_ble_eq_true rfl) dX4_change_49 ?_
      refine es_iast hx hb hK.1 hP hD hS 1 0 rfl rfl (by omega) (Nat.le_of_ble_eq_true rfl) dX4_change_50 (fun H locs hP hD hS => ?_)
      have hP : va_P D vwCl [(mo, .inr (4, [.ref ma, .ref mk, .ref mtx, .int (nI n), .int (nI tn), .ref m0, .ref m1, .ref m2, .ref m3, .int fl, .int fk, .int ot, .ref mb, .int of_, .int os_, .int (nI rd), .int (nI sc), .int (nI ed), .int ts, .int tkd, .int tl])), (mtx, .inl (cI, 400, .inl (upd E kk (E ((kk - cn) + ou)))))] H := hP
      have hD : va_D A [(mo, .inr (4, [.ref ma, .ref mk, .ref mtx, .int (nI n), .int (nI tn), .ref m0, .ref m1, .ref m2, .ref m3, .int fl, .int fk, .int ot, .ref mb, .int of_, .int os_, .int (nI rd), .int (nI sc), .int (nI ed), .int ts, .int tkd, .int tl])), (mtx, .inl (cI, 400, .inl (upd E kk (E ((kk - cn) + ou)))))] := hD
      refine lv_iinc (v := nI (kk - 1)) (lv' := [(7, .int (nI (kk - 1))), (0, .ref mo), (1, .int (nI pl)), (2, .int (nI ou)), (3, .long sy), (5, .int (nI cn)), (6, .int (nI (n - ou + cn)))]) hx hb dX4_change_51 hl (k := 6) rfl (sb_m1 (by omega)) (by decide) rfl (fun ls hl => ?_)
      refine lv_goto (tgt := 23) hx hb dX4_change_54 (by decide) ?_
      exact ih (kk - 1) (upd E kk (E ((kk - cn) + ou))) (by omega) (by omega) (by rw [show kk - 1 + 1 = kk by omega]; exact es_mvA_s hE (by omega) (by omega) (by omega)) (by omega) H locs (hP.sub [0, 1] rfl) (hD.sub [0, 1] (by decide) rfl) hS ls (lv_sub hl [1, 2, 3, 4, 5, 6, 0] rfl)
set_option maxHeartbeats 1000000 in
set_option maxRecDepth 100000 in
theorem lp_chgB {p : Program} {l : Launch} {e : Env} {R : Room} {s : State} {m : MethodId} {args : Array Value} {below : List Frame} {meth : Method} {c : Code} {Q : State → Prop} {A : Nat → Prop} {H0 : Heap} (D : va_G) (cI : ClassId) (mo : Nat) (ma : Nat) (mk : Nat) (mtx : Nat) (m0 : Nat) (m1 : Nat) (m2 : Nat) (m3 : Nat) (mb : Nat) (mx : Nat → Int32) (n : Nat) (tn : Nat) (fl : Int32) (fk : Int32) (ot : Int32) (of_ : Int32) (os_ : Int32) (rd : Nat) (sc : Nat) (ed : Nat) (ts : Int32) (tkd : Int32) (tl : Int32) (pl : Nat) (ou : Nat) (sy : Int64) (cn : Nat) (hx : p.tables.exec = Jvm.exec) (hb : c.code = cX4_change) (hml : c.maxLocals = 8) (hown : s.vm.findClass RX4 = some m.cls) (hw : ∀ w ∈ es_T, w.before args s = true) (hK : es_K D cI s) (hRm : 0 ≤ R.frames ∧ 0 ≤ R.locals) (hA : ∀ q : Nat, H0.size ≤ q → A q) (hn : n ≤ 400) (h1 : pl + ou ≤ n) (h2 : cn ≤ 16) (h3 : n - ou + cn ≤ 400) (hle_ : cn ≤ ou) (hex : ∀ (E : Nat → Int32), (es_mvd2 mx E (pl + cn) (n - ou + cn) pl cn ou) → ∀ (H : Heap) (locs : List Loc), va_P D vwCl [(mo, .inr (4, [.ref ma, .ref mk, .ref mtx, .int (nI n), .int (nI tn), .ref m0, .ref m1, .ref m2, .ref m3, .int fl, .int fk, .int ot, .ref mb, .int of_, .int os_, .int (nI rd), .int (nI sc), .int (nI ed), .int ts, .int tkd, .int tl])), (mtx, .inl (cI, 400, .inl E))] H → va_D A [(mo, .inr (4, [.ref ma, .ref mk, .ref mtx, .int (nI n), .int (nI tn), .ref m0, .ref m1, .ref m2, .ref m3, .int fl, .int fk, .int ot, .ref mb, .int of_, .int os_, .int (nI rd), .int (nI sc), .int (nI ed), .int ts, .int tkd, .int tl])), (mtx, .inl (cI, 400, .inl E))] → va_S A H0 H locs → ∀ (ls : Array Slot), lv_has ls 8 [(0, .ref mo), (1, .int (nI pl)), (2, .int (nI ou)), (3, .long sy), (5, .int (nI cn)), (6, .int (nI (n - ou + cn)))] →  W p l e R s m args below meth c H locs 0 0 Q (F0 m 98 ls [])) : ∀ (N : Nat) (kk : Nat) (E : Nat → Int32), (pl + cn ≤ kk) → (kk ≤ n - ou + cn) → (es_mvB mx E (pl + cn) kk (n - ou + cn) cn ou) → (n - ou + cn - kk) < N → ∀ (H : Heap) (locs : List Loc), va_P D vwCl [(mo, .inr (4, [.ref ma, .ref mk, .ref mtx, .int (nI n), .int (nI tn), .ref m0, .ref m1, .ref m2, .ref m3, .int fl, .int fk, .int ot, .ref mb, .int of_, .int os_, .int (nI rd), .int (nI sc), .int (nI ed), .int ts, .int tkd, .int tl])), (mtx, .inl (cI, 400, .inl E))] H → va_D A [(mo, .inr (4, [.ref ma, .ref mk, .ref mtx, .int (nI n), .int (nI tn), .ref m0, .ref m1, .ref m2, .ref m3, .int fl, .int fk, .int ot, .ref mb, .int of_, .int os_, .int (nI rd), .int (nI sc), .int (nI ed), .int ts, .int tkd, .int tl])), (mtx, .inl (cI, 400, .inl E))] → va_S A H0 H locs → ∀ (ls : Array Slot), lv_has ls 8 [(0, .ref mo), (1, .int (nI pl)), (2, .int (nI ou)), (3, .long sy), (5, .int (nI cn)), (6, .int (nI (n - ou + cn))), (7, .int (nI kk))] →  W p l e R s m args below meth c H locs 0 0 Q (F0 m 66 ls []) := by
  intro N
  induction N with
  | zero =>
    intro kk E hk hk2 hE hN
    exact absurd hN (Nat.not_lt_zero _)
  | succ N ih =>
    intro kk E hk hk2 hE hN H locs hP hD hS ls hl
    refine lv_iload hx hb dX4_change_66 (lv_at hl 6 rfl) ?_
    refine lv_iload hx hb dX4_change_68 (lv_at hl 5 rfl) ?_
    refine lv_icmp_ge (tgt := 98) hx hb dX4_change_70 (by decide) (fun c_70 => ?_) (fun c_70 => ?_)
    ·
      have c_70 := (nI_leI (by omega) (by omega)).mp c_70
      exact hex E ⟨fun j hj => hE.1 j (by omega), fun j h1 h2 => hE.2.1 j h1 (by omega)⟩  H locs (hP.sub [0, 1] rfl) (hD.sub [0, 1] (by decide) rfl) hS ls (lv_sub hl [0, 1, 2, 3, 4, 5] rfl)
    ·
      have c_70 := (mt (nI_leI (by omega) (by omega)).mpr c_70)
      refine lv_aload_n hx hb dX4_change_73 rfl (lv_at hl 0 rfl) ?_
      refine va_get (D := D) (ci := 4) (v := .ref mtx) (C := RX4) (T := TX4) (N := 21) hx hb hw iwX4 hown hK.1 hP 0 rfl rfl 2 (by decide) (hw _ xw_266) (fun _ h9 => h9) rfl dX4_change_74 ?_
      refine lv_iload hx hb dX4_change_77 (lv_at hl 6 rfl) ?_
      refine lv_aload_n hx hb dX4_change_79 rfl (lv_at hl 0 rfl) ?_
      refine va_get (D := D) (ci := 4) (v := .ref mtx) (C := RX4) (T := TX4) (N := 21) hx hb hw iwX4 hown hK.1 hP 0 rfl rfl 2 (by decide) (hw _ xw_266) (fun _ h9 => h9) rfl dX4_change_80 ?_
      refine lv_iload hx hb dX4_change_83 (lv_at hl 6 rfl) ?_
      refine lv_iload hx hb dX4_change_85 (lv_at hl 4 rfl) ?_
      refine lv_isub hx hb dX4_change_87 ?_
      refine es_top (y := nI (kk - cn)) (pk_sub (by omega)) ?_
      refine lv_iload_n hx hb dX4_change_88 rfl (lv_at hl 2 rfl) ?_
      refine lv_iadd hx hb dX4_change_89 ?_
      refine es_top (y := nI ((kk - cn) + ou)) (nI_add _ _) ?_
      refine es_iald hx hb hK.1 hP 1 0 rfl rfl (by omega) (Nat.le_of_ble_eq_true rfl) dX4_change_90 ?_
      refine es_iast hx hb hK.1 hP hD hS 1 0 rfl rfl (by omega) (Nat.le_of_ble_eq_true rfl) dX4_change_91 (fun H locs hP hD hS => ?_)
      have hP : va_P D vwCl [(mo, .inr (4, [.ref ma, .ref mk, .ref mtx, .int (nI n), .int (nI tn), .ref m0, .ref m1, .ref m2, .ref m3, .int fl, .int fk, .int ot, .ref mb, .int of_, .int os_, .int (nI rd), .int (nI sc), .int (nI ed), .int ts, .int tkd, .int tl])), (mtx, .inl (cI, 400, .inl (upd E kk (E ((kk - cn) + ou)))))] H := hP
      have hD : va_D A [(mo, .inr (4, [.ref ma, .ref mk, .ref mtx, .int (nI n), .int (nI tn), .ref m0, .ref m1, .ref m2, .ref m3, .int fl, .int fk, .int ot, .ref mb, .int of_, .int os_, .int (nI rd), .int (nI sc), .int (nI ed), .int ts, .int tkd, .int tl])), (mtx, .inl (cI, 400, .inl (upd E kk (E ((kk - cn) + ou)))))] := hD
      refine lv_iinc (v := nI (kk + 1)) (lv' := [(7, .int (nI (kk + 1))), (0, .ref mo), (1, .int (nI pl)), (2, .int (nI ou)), (3, .long sy), (5, .int (nI cn)), (6, .int (nI (n - ou + cn)))]) hx hb dX4_change_92 hl (k := 6) rfl (nI_1 _) (by decide) rfl (fun ls hl => ?_)
      refine lv_goto (tgt := 66) hx hb dX4_change_95 (by decide) ?_
      exact ih (kk + 1) (upd E kk (E ((kk - cn) + ou))) (by omega) (by omega) (es_mvB_s hE (by omega) (by omega) (by omega)) (by omega) H locs (hP.sub [0, 1] rfl) (hD.sub [0, 1] (by decide) rfl) hS ls (lv_sub hl [1, 2, 3, 4, 5, 6, 0] rfl)
set_option maxHeartbeats 1000000 in
set_option maxRecDepth 100000 in
theorem lp_chgC {p : Program} {l : Launch} {e : Env} {R : Room} {s : State} {m : MethodId} {args : Array Value} {below : List Frame} {meth : Method} {c : Code} {Q : State → Prop} {A : Nat → Prop} {H0 : Heap} (D : va_G) (cI : ClassId) (mo : Nat) (ma : Nat) (mk : Nat) (mtx : Nat) (m0 : Nat) (m1 : Nat) (m2 : Nat) (m3 : Nat) (mb : Nat) (mx : Nat → Int32) (n : Nat) (tn : Nat) (fl : Int32) (fk : Int32) (ot : Int32) (of_ : Int32) (os_ : Int32) (rd : Nat) (sc : Nat) (ed : Nat) (ts : Int32) (tkd : Int32) (tl : Int32) (pl : Nat) (ou : Nat) (sy : Int64) (cn : Nat) (cp : Nat → Int32) (hx : p.tables.exec = Jvm.exec) (hb : c.code = cX4_change) (hml : c.maxLocals = 8) (hown : s.vm.findClass RX4 = some m.cls) (hw : ∀ w ∈ es_T, w.before args s = true) (hK : es_K D cI s) (hRm : 0 ≤ R.frames ∧ 0 ≤ R.locals) (hA : ∀ q : Nat, H0.size ≤ q → A q) (hn : n ≤ 400) (h1 : pl + ou ≤ n) (h2 : cn ≤ 16) (h3 : n - ou + cn ≤ 400) (hex : ∀ (V : Nat → Int32), (es_rpi cp V pl sy cn cn) → ∀ (H : Heap) (locs : List Loc), va_P D vwCl [(mo, .inr (4, [.ref ma, .ref mk, .ref mtx, .int (nI n), .int (nI tn), .ref m0, .ref m1, .ref m2, .ref m3, .int fl, .int fk, .int ot, .ref mb, .int of_, .int os_, .int (nI rd), .int (nI sc), .int (nI ed), .int ts, .int tkd, .int tl])), (mtx, .inl (cI, 400, .inl V))] H → va_D A [(mo, .inr (4, [.ref ma, .ref mk, .ref mtx, .int (nI n), .int (nI tn), .ref m0, .ref m1, .ref m2, .ref m3, .int fl, .int fk, .int ot, .ref mb, .int of_, .int os_, .int (nI rd), .int (nI sc), .int (nI ed), .int ts, .int tkd, .int tl])), (mtx, .inl (cI, 400, .inl V))] → va_S A H0 H locs → ∀ (ls : Array Slot), lv_has ls 8 [(0, .ref mo), (6, .int (nI (n - ou + cn)))] →  W p l e R s m args below meth c H locs 0 0 Q (F0 m 139 ls [])) : ∀ (N : Nat) (i : Nat) (E : Nat → Int32), (i ≤ cn) → (es_rpi cp E pl sy cn i) → (cn - i) < N → ∀ (H : Heap) (locs : List Loc), va_P D vwCl [(mo, .inr (4, [.ref ma, .ref mk, .ref mtx, .int (nI n), .int (nI tn), .ref m0, .ref m1, .ref m2, .ref m3, .int fl, .int fk, .int ot, .ref mb, .int of_, .int os_, .int (nI rd), .int (nI sc), .int (nI ed), .int ts, .int tkd, .int tl])), (mtx, .inl (cI, 400, .inl E))] H → va_D A [(mo, .inr (4, [.ref ma, .ref mk, .ref mtx, .int (nI n), .int (nI tn), .ref m0, .ref m1, .ref m2, .ref m3, .int fl, .int fk, .int ot, .ref mb, .int of_, .int os_, .int (nI rd), .int (nI sc), .int (nI ed), .int ts, .int tkd, .int tl])), (mtx, .inl (cI, 400, .inl E))] → va_S A H0 H locs → ∀ (ls : Array Slot), lv_has ls 8 [(0, .ref mo), (1, .int (nI pl)), (2, .int (nI ou)), (3, .long sy), (5, .int (nI cn)), (6, .int (nI (n - ou + cn))), (7, .int (nI i))] →  W p l e R s m args below meth c H locs 0 0 Q (F0 m 101 ls []) := by
  intro N
  induction N with
  | zero =>
    intro i E hi hj hN
    exact absurd hN (Nat.not_lt_zero _)
  | succ N ih =>
    intro i E hi hj hN H locs hP hD hS ls hl
    refine lv_iload hx hb dX4_change_101 (lv_at hl 6 rfl) ?_
    refine lv_iload hx hb dX4_change_103 (lv_at hl 4 rfl) ?_
    refine lv_icmp_ge (tgt := 139) hx hb dX4_change_105 (by decide) (fun c_105 => ?_) (fun c_105 => ?_)
    ·
      have c_105 := (nI_leI (by omega) (by omega)).mp c_105
      exact hex E (by rw [show cn = i by omega]; rw [show cn = i by omega] at hj; exact hj)  H locs (hP.sub [0, 1] rfl) (hD.sub [0, 1] (by decide) rfl) hS ls (lv_sub hl [0, 5] rfl)
    ·
      have c_105 := (mt (nI_leI (by omega) (by omega)).mpr c_105)
      refine lv_aload_n hx hb dX4_change_108 rfl (lv_at hl 0 rfl) ?_
      refine va_get (D := D) (ci := 4) (v := .ref mtx) (C := RX4) (T := TX4) (N := 21) hx hb hw iwX4 hown hK.1 hP 0 rfl rfl 2 (by decide) (hw _ xw_266) (fun _ h9 => h9) rfl dX4_change_109 ?_
      refine lv_iload_n hx hb dX4_change_112 rfl (lv_at hl 1 rfl) ?_
      refine lv_iload hx hb dX4_change_113 (lv_at hl 6 rfl) ?_
      refine lv_iadd hx hb dX4_change_115 ?_
      refine es_top (y := nI (pl + i)) (nI_add _ _) ?_
      refine lv_lload_n hx hb dX4_change_116 rfl (lv_at hl 3 rfl) ?_
      refine lv_iconst (v := nI 4) hx hb dX4_change_117 (by decide) ?_
      refine lv_iload hx hb dX4_change_118 (lv_at hl 4 rfl) ?_
      refine lv_iconst (v := nI 1) hx hb dX4_change_120 (by decide) ?_
      refine lv_isub hx hb dX4_change_121 ?_
      refine es_top (y := nI (cn - 1)) (pk_sub (by omega)) ?_
      refine lv_iload hx hb dX4_change_122 (lv_at hl 6 rfl) ?_
      refine lv_isub hx hb dX4_change_124 ?_
      refine es_top (y := nI ((cn - 1) - i)) (pk_sub (by omega)) ?_
      refine lv_imul hx hb dX4_change_125 ?_
      refine es_top (y := nI (4 * ((cn - 1) - i))) (pk_mul _ _) ?_
      refine lv_lshr hx hb dX4_change_126 rfl ?_
      refine lv_ldc2 hx hb hown (hw _ xw_267) dX4_change_127 ?_
      refine lv_land hx hb dX4_change_130 ?_
      refine es_topl (y := lN (es_dg sy ((cn - 1) - i))) (es_shr15 (by omega)) ?_
      refine lv_l2i hx hb dX4_change_131 rfl ?_
      refine es_top (y := nI (es_dg sy (cn - 1 - i))) (lN_i _) ?_
      refine es_iast hx hb hK.1 hP hD hS 1 0 rfl rfl (by omega) (Nat.le_of_ble_eq_true rfl) dX4_change_132 (fun H locs hP hD hS => ?_)
      have hP : va_P D vwCl [(mo, .inr (4, [.ref ma, .ref mk, .ref mtx, .int (nI n), .int (nI tn), .ref m0, .ref m1, .ref m2, .ref m3, .int fl, .int fk, .int ot, .ref mb, .int of_, .int os_, .int (nI rd), .int (nI sc), .int (nI ed), .int ts, .int tkd, .int tl])), (mtx, .inl (cI, 400, .inl (upd E (pl + i) (nI (es_dg sy (cn - 1 - i))))))] H := hP
      have hD : va_D A [(mo, .inr (4, [.ref ma, .ref mk, .ref mtx, .int (nI n), .int (nI tn), .ref m0, .ref m1, .ref m2, .ref m3, .int fl, .int fk, .int ot, .ref mb, .int of_, .int os_, .int (nI rd), .int (nI sc), .int (nI ed), .int ts, .int tkd, .int tl])), (mtx, .inl (cI, 400, .inl (upd E (pl + i) (nI (es_dg sy (cn - 1 - i))))))] := hD
      refine lv_iinc (v := nI (i + 1)) (lv' := [(7, .int (nI (i + 1))), (0, .ref mo), (1, .int (nI pl)), (2, .int (nI ou)), (3, .long sy), (5, .int (nI cn)), (6, .int (nI (n - ou + cn)))]) hx hb dX4_change_133 hl (k := 6) rfl (nI_1 _) (by decide) rfl (fun ls hl => ?_)
      refine lv_goto (tgt := 101) hx hb dX4_change_136 (by decide) ?_
      exact ih (i + 1) (upd E (pl + i) (nI (es_dg sy (cn - 1 - i)))) (by first | assumption | omega) (es_rpi_s hj (by omega)) (by omega) H locs (hP.sub [0, 1] rfl) (hD.sub [0, 1] (by decide) rfl) hS ls (lv_sub hl [1, 2, 3, 4, 5, 6, 0] rfl)
set_option maxHeartbeats 1000000 in
set_option maxRecDepth 100000 in
/-- X4.change  -/
theorem c_X4_change (l : Launch) (D : va_G) (cI : ClassId) (sz : Nat) (mo : Nat) (ma : Nat) (mk : Nat) (mtx : Nat) (m0 : Nat) (m1 : Nat) (m2 : Nat) (m3 : Nat) (mb : Nat) (mx : Nat → Int32) (n : Nat) (tn : Nat) (fl : Int32) (fk : Int32) (ot : Int32) (of_ : Int32) (os_ : Int32) (rd : Nat) (sc : Nat) (ed : Nat) (ts : Int32) (tkd : Int32) (tl : Int32) (pl : Nat) (ou : Nat) (sy : Int64) (cn : Nat) (hn : n ≤ 400) (h1 : pl + ou ≤ n) (h2 : cn ≤ 16) (h3 : n - ou + cn ≤ 400) : Met l yX4_change (Cond.code yX4_change cX4_change 8 none :: es_T) { frames := 0, cells := 0, slots := 0, locals := 0 } (va_Pc [.ref mo, .int (nI pl), .int (nI ou), .long sy, .int (nI cn)] (es_W D cI sz [(mo, .inr (4, [.ref ma, .ref mk, .ref mtx, .int (nI n), .int (nI tn), .ref m0, .ref m1, .ref m2, .ref m3, .int fl, .int fk, .int ot, .ref mb, .int of_, .int os_, .int (nI rd), .int (nI sc), .int (nI ed), .int ts, .int tkd, .int tl])), (mtx, .inl (cI, 400, .inl mx))])) (va_Qv (fun u => es_rep mx u n pl ou sy cn) (fun (u : Nat → Int32) zt => va_P D vwCl [(mo, .inr (4, [.ref ma, .ref mk, .ref mtx, .int (nI (n - ou + cn)), .int (nI tn), .ref m0, .ref m1, .ref m2, .ref m3, .int fl, .int fk, .int ot, .ref mb, .int of_, .int os_, .int (nI rd), .int (nI sc), .int (nI ed), .int ts, .int tkd, .int tl])), (mtx, .inl (cI, 400, .inl u))] zt.heap ∧ va_D (va_A [(mo, .inr (4, [.ref ma, .ref mk, .ref mtx, .int (nI n), .int (nI tn), .ref m0, .ref m1, .ref m2, .ref m3, .int fl, .int fk, .int ot, .ref mb, .int of_, .int os_, .int (nI rd), .int (nI sc), .int (nI ed), .int ts, .int tkd, .int tl])), (mtx, .inl (cI, 400, .inl mx))] sz) [(mo, .inr (4, [.ref ma, .ref mk, .ref mtx, .int (nI (n - ou + cn)), .int (nI tn), .ref m0, .ref m1, .ref m2, .ref m3, .int fl, .int fk, .int ot, .ref mb, .int of_, .int os_, .int (nI rd), .int (nI sc), .int (nI ed), .int ts, .int tkd, .int tl])), (mtx, .inl (cI, 400, .inl u))]) (va_A [(mo, .inr (4, [.ref ma, .ref mk, .ref mtx, .int (nI n), .int (nI tn), .ref m0, .ref m1, .ref m2, .ref m3, .int fl, .int fk, .int ot, .ref mb, .int of_, .int os_, .int (nI rd), .int (nI sc), .int (nI ed), .int ts, .int tkd, .int tl])), (mtx, .inl (cI, 400, .inl mx))] sz)) 0 0 (va_A [(mo, .inr (4, [.ref ma, .ref mk, .ref mtx, .int (nI n), .int (nI tn), .ref m0, .ref m1, .ref m2, .ref m3, .int fl, .int fk, .int ot, .ref mb, .int of_, .int os_, .int (nI rd), .int (nI sc), .int (nI ed), .int ts, .int tkd, .int tl])), (mtx, .inl (cI, 400, .inl mx))] sz) := by
  refine Met.ofW (cc := cX4_change) (maxL := 8) (ret := none) (by decide) rfl ?_
  intro p e s m args below meth c s₁ B hml hv
  obtain ⟨rfl, hsz, hP, hK, hD0⟩ := hv
  have hx := B.exec
  have hb := B.bytes
  have hr := B.returns
  have hts := atoms_spec (ws := (Cond.code yX4_change cX4_change 8 none :: es_T)) B.pre
  have hw : ∀ w ∈ es_T, w.before _ s = true := fun w h => hts w (List.mem_cons_of_mem _ h)
  have hown : s.vm.findClass RX4 = some m.cls := findClass_of_methodNamed B.named
  have hlocks := B.notSynchronized
  have hRm : 0 ≤ (headSpec (Cond.code yX4_change cX4_change 8 none :: es_T) { frames := 0, cells := 0, slots := 0, locals := 0 }).room.frames ∧ 0 ≤ (headSpec (Cond.code yX4_change cX4_change 8 none :: es_T) { frames := 0, cells := 0, slots := 0, locals := 0 }).room.locals := ⟨Nat.le_refl _, Nat.le_refl _⟩
  have hRc : 0 ≤ (headSpec (Cond.code yX4_change cX4_change 8 none :: es_T) { frames := 0, cells := 0, slots := 0, locals := 0 }).room.cells ∧ 0 ≤ (headSpec (Cond.code yX4_change cX4_change 8 none :: es_T) { frames := 0, cells := 0, slots := 0, locals := 0 }).room.slots := ⟨Nat.le_refl _, Nat.le_refl _⟩
  subst hsz
  have hD := hD0.self (sz := s.heap.size)
  generalize hAe : va_A [(mo, .inr (4, [.ref ma, .ref mk, .ref mtx, .int (nI n), .int (nI tn), .ref m0, .ref m1, .ref m2, .ref m3, .int fl, .int fk, .int ot, .ref mb, .int of_, .int os_, .int (nI rd), .int (nI sc), .int (nI ed), .int ts, .int tkd, .int tl])), (mtx, .inl (cI, 400, .inl mx))] s.heap.size = A at hD ⊢
  have hA : ∀ q : Nat, s.heap.size ≤ q → A q := fun q h => by rw [← hAe]; exact Or.inr h
  have hS : va_S A s.heap s.heap [] := va_S.rf
  have hl := lv_entry ([.ref mo, .int (nI pl), .int (nI ou), .long sy, .int (nI cn)]) (n := 8) (Nat.le_of_ble_eq_true rfl)
  rw [lg_entry_eq]
  generalize (lg_sl ([.ref mo, .int (nI pl), .int (nI ou), .long sy, .int (nI cn)]) ++ List.replicate (8 - (lg_sl ([.ref mo, .int (nI pl), .int (nI ou), .long sy, .int (nI cn)])).length) Slot.unset).toArray = ls at hl ⊢
  have hl : lv_has ls 8 [(0, .ref mo), (1, .int (nI pl)), (2, .int (nI ou)), (3, .long sy), (5, .int (nI cn))] := hl
  refine lv_aload_n hx hb dX4_change_0 rfl (lv_at hl 0 rfl) ?_
  refine va_get (D := D) (ci := 4) (v := .int (nI n)) (C := RX4) (T := TX4) (N := 21) hx hb hw iwX4 hown hK.1 hP 0 rfl rfl 3 (by decide) (hw _ xw_260) (fun _ h9 => h9) rfl dX4_change_1 ?_
  refine lv_iload_n hx hb dX4_change_4 rfl (lv_at hl 2 rfl) ?_
  refine lv_isub hx hb dX4_change_5 ?_
  refine es_top (y := nI (n - ou)) (pk_sub (by omega)) ?_
  refine lv_iload hx hb dX4_change_6 (lv_at hl 4 rfl) ?_
  refine lv_iadd hx hb dX4_change_8 ?_
  refine es_top (y := nI ((n - ou) + cn)) (nI_add _ _) ?_
  refine lv_istore (lv' := [(6, .int (nI ((n - ou) + cn))), (0, .ref mo), (1, .int (nI pl)), (2, .int (nI ou)), (3, .long sy), (5, .int (nI cn))]) hx hb dX4_change_9 hl (by decide) rfl (fun ls hl => ?_)
  refine lv_iload hx hb dX4_change_11 (lv_at hl 5 rfl) ?_
  refine lv_iload_n hx hb dX4_change_13 rfl (lv_at hl 3 rfl) ?_
  refine lv_icmp_le (tgt := 60) hx hb dX4_change_14 (by decide) (fun c_14 => ?_) (fun c_14 => ?_)
  ·
    have c_14 := (nI_leI (by omega) (by omega)).mp c_14
    refine lv_iload_n hx hb dX4_change_60 rfl (lv_at hl 2 rfl) ?_
    refine lv_iload hx hb dX4_change_61 (lv_at hl 5 rfl) ?_
    refine lv_iadd hx hb dX4_change_63 ?_
    refine es_top (y := nI (pl + cn)) (nI_add _ _) ?_
    refine lv_istore (lv' := [(7, .int (nI (pl + cn))), (6, .int (nI ((n - ou) + cn))), (0, .ref mo), (1, .int (nI pl)), (2, .int (nI ou)), (3, .long sy), (5, .int (nI cn))]) hx hb dX4_change_64 hl (by decide) rfl (fun ls hl => ?_)
    refine lp_chgB D cI mo ma mk mtx m0 m1 m2 m3 mb mx n tn fl fk ot of_ os_ rd sc ed ts tkd tl pl ou sy cn hx hb hml hown hw hK ⟨Nat.le_trans (Nat.le_of_ble_eq_true rfl) hRm.1, Nat.le_trans (Nat.le_of_ble_eq_true rfl) hRm.2⟩ hA (by first | assumption | omega) (by first | assumption | omega) (by first | assumption | omega) (by first | assumption | omega) (by omega) (fun E hm H locs hP hD hS ls hl => ?_) ((n - ou + cn - (pl + cn)) + 1) (pl + cn) mx (Nat.le_refl _) (by omega) ⟨fun _ _ => rfl, fun j h1 h2 => by omega, fun _ _ => rfl⟩ (Nat.lt_succ_self _) s.heap [] (hP.sub [0, 1] rfl) (hD.sub [0, 1] (by decide) rfl) hS ls (lv_sub hl [2, 3, 4, 5, 6, 1, 0] rfl)
    refine lv_iconst (v := nI 0) hx hb dX4_change_98 (by decide) ?_
    refine lv_istore (lv' := [(7, .int (nI 0)), (0, .ref mo), (1, .int (nI pl)), (2, .int (nI ou)), (3, .long sy), (5, .int (nI cn)), (6, .int (nI (n - ou + cn)))]) hx hb dX4_change_99 hl (by decide) rfl (fun ls hl => ?_)
    refine lp_chgC D cI mo ma mk mtx m0 m1 m2 m3 mb mx n tn fl fk ot of_ os_ rd sc ed ts tkd tl pl ou sy cn E hx hb hml hown hw hK ⟨Nat.le_trans (Nat.le_of_ble_eq_true rfl) hRm.1, Nat.le_trans (Nat.le_of_ble_eq_true rfl) hRm.2⟩ hA (by first | assumption | omega) (by first | assumption | omega) (by first | assumption | omega) (by first | assumption | omega) (fun V hj H locs hP hD hS ls hl => ?_) ((cn - 0) + 1) 0 E (Nat.zero_le _) es_rpi_0 (Nat.lt_succ_self _) H locs (hP.sub [0, 1] rfl) (hD.sub [0, 1] (by decide) rfl) hS ls (lv_sub hl [1, 2, 3, 4, 5, 6, 0] rfl)
    refine lv_aload_n hx hb dX4_change_139 rfl (lv_at hl 0 rfl) ?_
    refine lv_iload hx hb dX4_change_140 (lv_at hl 1 rfl) ?_
    refine va_put (D := D) (ci := 4) (v := .int (nI (n - ou + cn))) (ty := .int) (C := RX4) (T := TX4) (N := 21) hx hb hw iwX4 tyX4 tyX4_ok nmX4 hown hK.1 hP hD hS 0 rfl rfl 3 (by decide) (hw _ xw_260) (fun _ h9 => h9) rfl (by decide +kernel) rfl rfl (Nat.le_of_ble_eq_true rfl) dX4_change_142 (fun H locs hP hD hS => ?_)
    have hP : va_P D vwCl [(mo, .inr (4, [.ref ma, .ref mk, .ref mtx, .int (nI (n - ou + cn)), .int (nI tn), .ref m0, .ref m1, .ref m2, .ref m3, .int fl, .int fk, .int ot, .ref mb, .int of_, .int os_, .int (nI rd), .int (nI sc), .int (nI ed), .int ts, .int tkd, .int tl])), (mtx, .inl (cI, 400, .inl V))] H := hP
    have hD : va_D A [(mo, .inr (4, [.ref ma, .ref mk, .ref mtx, .int (nI (n - ou + cn)), .int (nI tn), .ref m0, .ref m1, .ref m2, .ref m3, .int fl, .int fk, .int ot, .ref mb, .int of_, .int os_, .int (nI rd), .int (nI sc), .int (nI ed), .int ts, .int tkd, .int tl])), (mtx, .inl (cI, 400, .inl V))] := hD
    exact W.vret hx hb hr (fun zt ht hW => ⟨⟨V, rfl, (es_rep_of2 h1 hm hj), ⟨by rw [ht]; exact hP.sub [0, 1] rfl, hD.sub [0, 1] (by decide) rfl⟩⟩, hS.F ht⟩) hS.2.2 dX4_change_145
  ·
    have c_14 := (mt (nI_leI (by omega) (by omega)).mpr c_14)
    refine lv_iload hx hb dX4_change_17 (lv_at hl 0 rfl) ?_
    refine lv_iconst (v := nI 1) hx hb dX4_change_19 (by decide) ?_
    refine lv_isub hx hb dX4_change_20 ?_
    refine es_top (y := nI (((n - ou) + cn) - 1)) (pk_sub (by omega)) ?_
    refine lv_istore (lv' := [(7, .int (nI (((n - ou) + cn) - 1))), (6, .int (nI ((n - ou) + cn))), (0, .ref mo), (1, .int (nI pl)), (2, .int (nI ou)), (3, .long sy), (5, .int (nI cn))]) hx hb dX4_change_21 hl (by decide) rfl (fun ls hl => ?_)
    refine lp_chgA D cI mo ma mk mtx m0 m1 m2 m3 mb mx n tn fl fk ot of_ os_ rd sc ed ts tkd tl pl ou sy cn hx hb hml hown hw hK ⟨Nat.le_trans (Nat.le_of_ble_eq_true rfl) hRm.1, Nat.le_trans (Nat.le_of_ble_eq_true rfl) hRm.2⟩ hA (by first | assumption | omega) (by first | assumption | omega) (by first | assumption | omega) (by first | assumption | omega) (by omega) (fun E hm H locs hP hD hS ls hl => ?_) ((((n - ou) + cn) - 1) + 1) (((n - ou) + cn) - 1) mx (by omega) (by omega) ⟨fun _ _ => rfl, fun _ _ _ => rfl, fun j h1 h2 h3 => by omega⟩ (Nat.lt_succ_self _) s.heap [] (hP.sub [0, 1] rfl) (hD.sub [0, 1] (by decide) rfl) hS ls (lv_sub hl [2, 3, 4, 5, 6, 1, 0] rfl)
    refine lv_goto (tgt := 98) hx hb dX4_change_57 (by decide) ?_
    refine lv_iconst (v := nI 0) hx hb dX4_change_98 (by decide) ?_
    refine lv_istore (lv' := [(7, .int (nI 0)), (0, .ref mo), (1, .int (nI pl)), (2, .int (nI ou)), (3, .long sy), (5, .int (nI cn)), (6, .int (nI (n - ou + cn)))]) hx hb dX4_change_99 hl (by decide) rfl (fun ls hl => ?_)
    refine lp_chgC D cI mo ma mk mtx m0 m1 m2 m3 mb mx n tn fl fk ot of_ os_ rd sc ed ts tkd tl pl ou sy cn E hx hb hml hown hw hK ⟨Nat.le_trans (Nat.le_of_ble_eq_true rfl) hRm.1, Nat.le_trans (Nat.le_of_ble_eq_true rfl) hRm.2⟩ hA (by first | assumption | omega) (by first | assumption | omega) (by first | assumption | omega) (by first | assumption | omega) (fun V hj H locs hP hD hS ls hl => ?_) ((cn - 0) + 1) 0 E (Nat.zero_le _) es_rpi_0 (Nat.lt_succ_self _) H locs (hP.sub [0, 1] rfl) (hD.sub [0, 1] (by decide) rfl) hS ls (lv_sub hl [1, 2, 3, 4, 5, 6, 0] rfl)
    refine lv_aload_n hx hb dX4_change_139 rfl (lv_at hl 0 rfl) ?_
    refine lv_iload hx hb dX4_change_140 (lv_at hl 1 rfl) ?_
    refine va_put (D := D) (ci := 4) (v := .int (nI (n - ou + cn))) (ty := .int) (C := RX4) (T := TX4) (N := 21) hx hb hw iwX4 tyX4 tyX4_ok nmX4 hown hK.1 hP hD hS 0 rfl rfl 3 (by decide) (hw _ xw_260) (fun _ h9 => h9) rfl (by decide +kernel) rfl rfl (Nat.le_of_ble_eq_true rfl) dX4_change_142 (fun H locs hP hD hS => ?_)
    have hP : va_P D vwCl [(mo, .inr (4, [.ref ma, .ref mk, .ref mtx, .int (nI (n - ou + cn)), .int (nI tn), .ref m0, .ref m1, .ref m2, .ref m3, .int fl, .int fk, .int ot, .ref mb, .int of_, .int os_, .int (nI rd), .int (nI sc), .int (nI ed), .int ts, .int tkd, .int tl])), (mtx, .inl (cI, 400, .inl V))] H := hP
    have hD : va_D A [(mo, .inr (4, [.ref ma, .ref mk, .ref mtx, .int (nI (n - ou + cn)), .int (nI tn), .ref m0, .ref m1, .ref m2, .ref m3, .int fl, .int fk, .int ot, .ref mb, .int of_, .int os_, .int (nI rd), .int (nI sc), .int (nI ed), .int ts, .int tkd, .int tl])), (mtx, .inl (cI, 400, .inl V))] := hD
    exact W.vret hx hb hr (fun zt ht hW => ⟨⟨V, rfl, (es_rep_of2 h1 hm hj), ⟨by rw [ht]; exact hP.sub [0, 1] rfl, hD.sub [0, 1] (by decide) rfl⟩⟩, hS.F ht⟩) hS.2.2 dX4_change_145
