set_option maxHeartbeats 1000000 in
set_option maxRecDepth 100000 in
theorem lp_mScan {p : Program} {l : Launch} {e : Env} {R : Room} {s : State} {m : MethodId} {args : Array Value} {below : List Frame} {meth : Method} {c : Code} {Q : State → Prop} {A : Nat → Prop} {H0 : Heap} (D : va_G) (cI : ClassId) (mo : Nat) (ma : Nat) (mk : Nat) (mtx : Nat) (m0 : Nat) (m1 : Nat) (m2 : Nat) (m3 : Nat) (mb : Nat) (ar : Nat → Int32) (ki : Nat → Int32) (mx : Nat → Int32) (n : Nat) (tn : Nat) (fl : Int32) (fk : Int32) (ot : Int32) (of_ : Int32) (os_ : Int32) (rd : Nat) (sc : Nat) (ed : Nat) (b : Nat) (hx : p.tables.exec = Jvm.exec) (hb : c.code = cX4_scan) (hml : c.maxLocals = 4) (hown : s.vm.findClass RX4 = some m.cls) (hw : ∀ w ∈ es_T, w.before args s = true) (hK : es_K D cI s) (hRm : 0 ≤ R.frames ∧ 0 ≤ R.locals) (hA : ∀ q : Nat, H0.size ≤ q → A q) (hta : es_ta ar) (htk : es_tk2 ki) (htt : es_tt mx n) (hn : n ≤ 400) (hbn : b < n) (hex : ∀ (L : Nat) (le : Nat) (kd : Int32), (L = es_Lo ar (es_lk mx n) b) → (le = es_Le ar ki (es_lk mx n) b) → (kd = es_Kd ar ki (es_lk mx n) b) → ∀ (H : Heap) (locs : List Loc), va_P D vwCl [(mo, .inr (4, [.ref ma, .ref mk, .ref mtx, .int (nI n), .int (nI tn), .ref m0, .ref m1, .ref m2, .ref m3, .int fl, .int fk, .int ot, .ref mb, .int of_, .int os_, .int (nI rd), .int (nI sc), .int (nI ed), .int (nI le), .int kd, .int (nI L)])), (ma, .inl (cI, 200, .inl ar)), (mk, .inl (cI, 20, .inl ki)), (mtx, .inl (cI, 400, .inl mx))] H → va_D A [(mo, .inr (4, [.ref ma, .ref mk, .ref mtx, .int (nI n), .int (nI tn), .ref m0, .ref m1, .ref m2, .ref m3, .int fl, .int fk, .int ot, .ref mb, .int of_, .int os_, .int (nI rd), .int (nI sc), .int (nI ed), .int (nI le), .int kd, .int (nI L)])), (ma, .inl (cI, 200, .inl ar)), (mk, .inl (cI, 20, .inl ki)), (mtx, .inl (cI, 400, .inl mx))] → va_S A H0 H locs → ∀ (ls : Array Slot), lv_has ls 4 [(0, .ref mo)] →  W p l e R s m args below meth c H locs 0 0 Q (F0 m 98 ls [])) : ∀ (N : Nat) (i : Nat) (x : Int32) (le : Nat) (kd : Int32), (i ≤ 401) → (x = es_q ar (es_at (es_lk mx n) b) i) → (∀ j, j < i → es_q ar (es_at (es_lk mx n) b) j ≠ -1) → (le = es_bl ar ki (es_at (es_lk mx n) b) i) → (kd = es_bk ar ki (es_at (es_lk mx n) b) i) → (402 - i) < N → ∀ (H : Heap) (locs : List Loc), va_P D vwCl [(mo, .inr (4, [.ref ma, .ref mk, .ref mtx, .int (nI n), .int (nI tn), .ref m0, .ref m1, .ref m2, .ref m3, .int fl, .int fk, .int ot, .ref mb, .int of_, .int os_, .int (nI rd), .int (nI sc), .int (nI ed), .int (nI le), .int kd, .int (nI i)])), (ma, .inl (cI, 200, .inl ar)), (mk, .inl (cI, 20, .inl ki)), (mtx, .inl (cI, 400, .inl mx))] H → va_D A [(mo, .inr (4, [.ref ma, .ref mk, .ref mtx, .int (nI n), .int (nI tn), .ref m0, .ref m1, .ref m2, .ref m3, .int fl, .int fk, .int ot, .ref mb, .int of_, .int os_, .int (nI rd), .int (nI sc), .int (nI ed), .int (nI le), .int kd, .int (nI i)])), (ma, .inl (cI, 200, .inl ar)), (mk, .inl (cI, 20, .inl ki)), (mtx, .inl (cI, 400, .inl mx))] → va_S A H0 H locs → ∀ (ls : Array Slot), lv_has ls 4 [(0, .ref mo), (1, .int (nI b)), (2, .int x), (3, .int (nI (b + i)))] →  W p l e R s m args below meth c H locs 0 0 Q (F0 m 19 ls []) := by
  intro N
  induction N with
  | zero =>
    intro i x le kd hi hx_ hne hle hkd hN
    exact absurd hN (Nat.not_lt_zero _)
  | succ N ih =>
    intro i x le kd hi hx_ hne hle hkd hN H locs hP hD hS ls hl
    have hsy := es_tt_sy htt
    refine lv_iload_n hx hb dX4_scan_19 rfl (lv_at hl 2 rfl) ?_
    refine lv_if_lt (tgt := 98) hx hb dX4_scan_20 (by decide) (fun c_20 => ?_) (fun c_20 => ?_)
    ·
      exact hex i le kd (es_exit ⟨(es_q_neg hta hsy hx_ c_20), hne⟩ hle hkd).1 (es_exit ⟨(es_q_neg hta hsy hx_ c_20), hne⟩ hle hkd).2.1 (es_exit ⟨(es_q_neg hta hsy hx_ c_20), hne⟩ hle hkd).2.2  H locs (hP.sub [0, 1, 2, 3] rfl) (hD.sub [0, 1, 2, 3] (by decide) rfl) hS ls (lv_sub hl [0] rfl)
    ·
      obtain ⟨q0, hq0, rfl⟩ := es_q_st2 hta hsy hx_ c_20
      refine lv_aload_n hx hb dX4_scan_23 rfl (lv_at hl 0 rfl) ?_
      refine lv_dup hx hb dX4_scan_24 rfl ?_
      refine va_get (D := D) (ci := 4) (v := .int (nI i)) (C := RX4) (T := TX4) (N := 21) hx hb hw iwX4 hown hK.1 hP 0 rfl rfl 20 (by decide) (hw _ xw_302) (fun _ h9 => h9) rfl dX4_scan_25 ?_
      refine lv_iconst (v := nI 1) hx hb dX4_scan_28 (by decide) ?_
      refine lv_iadd hx hb dX4_scan_29 ?_
      refine es_top (y := nI (i + 1)) (nI_add _ _) ?_
      refine va_put (D := D) (ci := 4) (v := .int (nI (i + 1))) (ty := .int) (C := RX4) (T := TX4) (N := 21) hx hb hw iwX4 tyX4 tyX4_ok nmX4 hown hK.1 hP hD hS 0 rfl rfl 20 (by decide) (hw _ xw_302) (fun _ h9 => h9) rfl (by decide +kernel) rfl rfl (Nat.le_of_ble_eq_true rfl) dX4_scan_30 (fun H locs hP hD hS => ?_)
      have hP : va_P D vwCl [(mo, .inr (4, [.ref ma, .ref mk, .ref mtx, .int (nI n), .int (nI tn), .ref m0, .ref m1, .ref m2, .ref m3, .int fl, .int fk, .int ot, .ref mb, .int of_, .int os_, .int (nI rd), .int (nI sc), .int (nI ed), .int (nI le), .int kd, .int (nI (i + 1))])), (ma, .inl (cI, 200, .inl ar)), (mk, .inl (cI, 20, .inl ki)), (mtx, .inl (cI, 400, .inl mx))] H := hP
      have hD : va_D A [(mo, .inr (4, [.ref ma, .ref mk, .ref mtx, .int (nI n), .int (nI tn), .ref m0, .ref m1, .ref m2, .ref m3, .int fl, .int fk, .int ot, .ref mb, .int of_, .int os_, .int (nI rd), .int (nI sc), .int (nI ed), .int (nI le), .int kd, .int (nI (i + 1))])), (ma, .inl (cI, 200, .inl ar)), (mk, .inl (cI, 20, .inl ki)), (mtx, .inl (cI, 400, .inl mx))] := hD
      refine lv_iload_n hx hb dX4_scan_33 rfl (lv_at hl 3 rfl) ?_
      refine lv_aload_n hx hb dX4_scan_34 rfl (lv_at hl 0 rfl) ?_
      refine va_get (D := D) (ci := 4) (v := .int (nI n)) (C := RX4) (T := TX4) (N := 21) hx hb hw iwX4 hown hK.1 hP 0 rfl rfl 3 (by decide) (hw _ xw_260) (fun _ h9 => h9) rfl dX4_scan_35 ?_
      refine lv_icmp_ge (tgt := 60) hx hb dX4_scan_38 (by decide) (fun c_38 => ?_) (fun c_38 => ?_)
      ·
        have c_38 := (nI_leI (by omega) (by omega)).mp c_38
        refine lv_iconst (v := (-1)) hx hb dX4_scan_60 (by decide) ?_
        refine es_top (y := es_q ar (es_at (es_lk mx n) b) (i + 1)) (es_q_out (by omega)) ?_
        refine lv_istore_n (lv' := [(2, .int (es_q ar (es_at (es_lk mx n) b) (i + 1))), (0, .ref mo), (1, .int (nI b)), (3, .int (nI (b + i)))]) hx hb dX4_scan_61 rfl hl (by decide) rfl (fun ls hl => ?_)
        refine lv_iinc (v := nI ((b + i) + 1)) (lv' := [(3, .int (nI ((b + i) + 1))), (2, .int (es_q ar (es_at (es_lk mx n) b) (i + 1))), (0, .ref mo), (1, .int (nI b))]) hx hb dX4_scan_62 hl (k := 3) rfl (nI_1 _) (by decide) rfl (fun ls hl => ?_)
        refine lv_iload_n hx hb dX4_scan_65 rfl (lv_at hl 1 rfl) ?_
        refine lv_if_lt (tgt := 19) hx hb dX4_scan_66 (by decide) (fun c_66 => ?_) (fun c_66 => ?_)
        ·
          exact ih (i + 1) (es_q ar (es_at (es_lk mx n) b) (i + 1)) le kd (es_i_le hn hx_ hq0) rfl (lt_s hne (fun z => es_nnm (by omega) (hx_.trans z))) (hle.trans (es_bl_s0 (es_kd_neg hta hsy c_66)).1.symm) (hkd.trans (es_bl_s0 (es_kd_neg hta hsy c_66)).2.symm) (by have := es_i_le hn hx_ hq0; omega) H locs (hP.sub [0, 1, 2, 3] rfl) (hD.sub [0, 1, 2, 3] (by decide) rfl) hS ls (lv_sub hl [2, 3, 1, 0] rfl)
        ·
          obtain ⟨q1, hq1, eq1⟩ := es_q_st2 hta hsy rfl c_66
          refine lv_aload_n hx hb dX4_scan_69 rfl (lv_at hl 2 rfl) ?_
          refine va_get (D := D) (ci := 4) (v := .ref mk) (C := RX4) (T := TX4) (N := 21) hx hb hw iwX4 hown hK.1 hP 0 rfl rfl 1 (by decide) (hw _ xw_293) (fun _ h9 => h9) rfl dX4_scan_70 ?_
          refine lv_iload_n hx hb dX4_scan_73 rfl (lv_at hl 1 rfl) ?_
          refine va_iald hx hb hK.1 hP 2 0 rfl rfl (by rw [eq1]; exact vp_in_nI hq1 (by decide)) dX4_scan_74 ?_
          refine es_top (y := es_kd ki (es_q ar (es_at (es_lk mx n) b) (i + 1))) (es_kd_q eq1 hq1) ?_
          refine lv_if_lt (tgt := 19) hx hb dX4_scan_75 (by decide) (fun c_75 => ?_) (fun c_75 => ?_)
          ·
            exact ih (i + 1) (es_q ar (es_at (es_lk mx n) b) (i + 1)) le kd (es_i_le hn hx_ hq0) rfl (lt_s hne (fun z => es_nnm (by omega) (hx_.trans z))) (hle.trans (es_bl_s0 (es_kd_m1 htk eq1 hq1 c_75)).1.symm) (hkd.trans (es_bl_s0 (es_kd_m1 htk eq1 hq1 c_75)).2.symm) (by have := es_i_le hn hx_ hq0; omega) H locs (hP.sub [0, 1, 2, 3] rfl) (hD.sub [0, 1, 2, 3] (by decide) rfl) hS ls (lv_sub hl [2, 3, 1, 0] rfl)
          ·
            refine lv_aload_n hx hb dX4_scan_78 rfl (lv_at hl 2 rfl) ?_
            refine lv_iload_n hx hb dX4_scan_79 rfl (lv_at hl 0 rfl) ?_
            refine lv_iload_n hx hb dX4_scan_80 rfl (lv_at hl 3 rfl) ?_
            refine lv_isub hx hb dX4_scan_81 ?_
            refine es_top (y := nI (i + 1)) es_subb ?_
            refine va_put (D := D) (ci := 4) (v := .int (nI (i + 1))) (ty := .int) (C := RX4) (T := TX4) (N := 21) hx hb hw iwX4 tyX4 tyX4_ok nmX4 hown hK.1 hP hD hS 0 rfl rfl 18 (by decide) (hw _ xw_303) (fun _ h9 => h9) rfl (by decide +kernel) rfl rfl (Nat.le_of_ble_eq_true rfl) dX4_scan_82 (fun H locs hP hD hS => ?_)
            have hP : va_P D vwCl [(mo, .inr (4, [.ref ma, .ref mk, .ref mtx, .int (nI n), .int (nI tn), .ref m0, .ref m1, .ref m2, .ref m3, .int fl, .int fk, .int ot, .ref mb, .int of_, .int os_, .int (nI rd), .int (nI sc), .int (nI ed), .int (nI (i + 1)), .int kd, .int (nI (i + 1))])), (ma, .inl (cI, 200, .inl ar)), (mk, .inl (cI, 20, .inl ki)), (mtx, .inl (cI, 400, .inl mx))] H := hP
            have hD : va_D A [(mo, .inr (4, [.ref ma, .ref mk, .ref mtx, .int (nI n), .int (nI tn), .ref m0, .ref m1, .ref m2, .ref m3, .int fl, .int fk, .int ot, .ref mb, .int of_, .int os_, .int (nI rd), .int (nI sc), .int (nI ed), .int (nI (i + 1)), .int kd, .int (nI (i + 1))])), (ma, .inl (cI, 200, .inl ar)), (mk, .inl (cI, 20, .inl ki)), (mtx, .inl (cI, 400, .inl mx))] := hD
            refine lv_aload_n hx hb dX4_scan_85 rfl (lv_at hl 2 rfl) ?_
            refine lv_aload_n hx hb dX4_scan_86 rfl (lv_at hl 2 rfl) ?_
            refine va_get (D := D) (ci := 4) (v := .ref mk) (C := RX4) (T := TX4) (N := 21) hx hb hw iwX4 hown hK.1 hP 0 rfl rfl 1 (by decide) (hw _ xw_293) (fun _ h9 => h9) rfl dX4_scan_87 ?_
            refine lv_iload_n hx hb dX4_scan_90 rfl (lv_at hl 1 rfl) ?_
            refine va_iald hx hb hK.1 hP 2 0 rfl rfl (by rw [eq1]; exact vp_in_nI hq1 (by decide)) dX4_scan_91 ?_
            refine es_top (y := es_kd ki (es_q ar (es_at (es_lk mx n) b) (i + 1))) (es_kd_q eq1 hq1) ?_
            refine va_put (D := D) (ci := 4) (v := .int (es_kd ki (es_q ar (es_at (es_lk mx n) b) (i + 1)))) (ty := .int) (C := RX4) (T := TX4) (N := 21) hx hb hw iwX4 tyX4 tyX4_ok nmX4 hown hK.1 hP hD hS 0 rfl rfl 19 (by decide) (hw _ xw_307) (fun _ h9 => h9) rfl (by decide +kernel) rfl rfl (Nat.le_of_ble_eq_true rfl) dX4_scan_92 (fun H locs hP hD hS => ?_)
            have hP : va_P D vwCl [(mo, .inr (4, [.ref ma, .ref mk, .ref mtx, .int (nI n), .int (nI tn), .ref m0, .ref m1, .ref m2, .ref m3, .int fl, .int fk, .int ot, .ref mb, .int of_, .int os_, .int (nI rd), .int (nI sc), .int (nI ed), .int (nI (i + 1)), .int (es_kd ki (es_q ar (es_at (es_lk mx n) b) (i + 1))), .int (nI (i + 1))])), (ma, .inl (cI, 200, .inl ar)), (mk, .inl (cI, 20, .inl ki)), (mtx, .inl (cI, 400, .inl mx))] H := hP
            have hD : va_D A [(mo, .inr (4, [.ref ma, .ref mk, .ref mtx, .int (nI n), .int (nI tn), .ref m0, .ref m1, .ref m2, .ref m3, .int fl, .int fk, .int ot, .ref mb, .int of_, .int os_, .int (nI rd), .int (nI sc), .int (nI ed), .int (nI (i + 1)), .int (es_kd ki (es_q ar (es_at (es_lk mx n) b) (i + 1))), .int (nI (i + 1))])), (ma, .inl (cI, 200, .inl ar)), (mk, .inl (cI, 20, .inl ki)), (mtx, .inl (cI, 400, .inl mx))] := hD
            refine lv_goto (tgt := 19) hx hb dX4_scan_95 (by decide) ?_
            exact ih (i + 1) (es_q ar (es_at (es_lk mx n) b) (i + 1)) (i + 1) (es_kd ki (es_q ar (es_at (es_lk mx n) b) (i + 1))) (es_i_le hn hx_ hq0) rfl (lt_s hne (fun z => es_nnm (by omega) (hx_.trans z))) (es_bl_s1 (es_nlt_m1 c_75)).1.symm (es_bl_s1 (es_nlt_m1 c_75)).2.symm (by have := es_i_le hn hx_ hq0; omega) H locs (hP.sub [0, 1, 2, 3] rfl) (hD.sub [0, 1, 2, 3] (by decide) rfl) hS ls (lv_sub hl [2, 3, 1, 0] rfl)
      ·
        have c_38 := (mt (nI_leI (by omega) (by omega)).mpr c_38)
        obtain ⟨s0, hs0, hs1⟩ := htt (b + i) (by omega)
        refine lv_aload_n hx hb dX4_scan_41 rfl (lv_at hl 0 rfl) ?_
        refine va_get (D := D) (ci := 4) (v := .ref ma) (C := RX4) (T := TX4) (N := 21) hx hb hw iwX4 hown hK.1 hP 0 rfl rfl 0 (by decide) (hw _ xw_261) (fun _ h9 => h9) rfl dX4_scan_42 ?_
        refine lv_bipush (v := nI 10) hx hb dX4_scan_45 (by decide) ?_
        refine lv_iload_n hx hb dX4_scan_47 rfl (lv_at hl 2 rfl) ?_
        refine lv_imul hx hb dX4_scan_48 ?_
        refine es_top (y := nI (10 * q0)) (pk_mul _ _) ?_
        refine lv_aload_n hx hb dX4_scan_49 rfl (lv_at hl 0 rfl) ?_
        refine va_get (D := D) (ci := 4) (v := .ref mtx) (C := RX4) (T := TX4) (N := 21) hx hb hw iwX4 hown hK.1 hP 0 rfl rfl 2 (by decide) (hw _ xw_266) (fun _ h9 => h9) rfl dX4_scan_50 ?_
        refine lv_iload_n hx hb dX4_scan_53 rfl (lv_at hl 3 rfl) ?_
        refine es_iald hx hb hK.1 hP 3 0 rfl rfl (by omega) (Nat.le_of_ble_eq_true rfl) dX4_scan_54 ?_
        refine es_top (y := nI s0) hs1 ?_
        refine lv_iadd hx hb dX4_scan_55 ?_
        refine es_top (y := nI ((10 * q0) + s0)) (nI_add _ _) ?_
        refine es_iald hx hb hK.1 hP 1 0 rfl rfl (by omega) (Nat.le_of_ble_eq_true rfl) dX4_scan_56 ?_
        refine es_top (y := es_q ar (es_at (es_lk mx n) b) (i + 1)) (es_q_in hq0 hx_ (by omega) hs0 hs1) ?_
        refine lv_goto (tgt := 61) hx hb dX4_scan_57 (by decide) ?_
        refine lv_istore_n (lv' := [(2, .int (es_q ar (es_at (es_lk mx n) b) (i + 1))), (0, .ref mo), (1, .int (nI b)), (3, .int (nI (b + i)))]) hx hb dX4_scan_61 rfl hl (by decide) rfl (fun ls hl => ?_)
        refine lv_iinc (v := nI ((b + i) + 1)) (lv' := [(3, .int (nI ((b + i) + 1))), (2, .int (es_q ar (es_at (es_lk mx n) b) (i + 1))), (0, .ref mo), (1, .int (nI b))]) hx hb dX4_scan_62 hl (k := 3) rfl (nI_1 _) (by decide) rfl (fun ls hl => ?_)
        refine lv_iload_n hx hb dX4_scan_65 rfl (lv_at hl 1 rfl) ?_
        refine lv_if_lt (tgt := 19) hx hb dX4_scan_66 (by decide) (fun c_66 => ?_) (fun c_66 => ?_)
        ·
          exact ih (i + 1) (es_q ar (es_at (es_lk mx n) b) (i + 1)) le kd (es_i_le hn hx_ hq0) rfl (lt_s hne (fun z => es_nnm (by omega) (hx_.trans z))) (hle.trans (es_bl_s0 (es_kd_neg hta hsy c_66)).1.symm) (hkd.trans (es_bl_s0 (es_kd_neg hta hsy c_66)).2.symm) (by have := es_i_le hn hx_ hq0; omega) H locs (hP.sub [0, 1, 2, 3] rfl) (hD.sub [0, 1, 2, 3] (by decide) rfl) hS ls (lv_sub hl [2, 3, 1, 0] rfl)
        ·
          obtain ⟨q1, hq1, eq1⟩ := es_q_st2 hta hsy rfl c_66
          refine lv_aload_n hx hb dX4_scan_69 rfl (lv_at hl 2 rfl) ?_
          refine va_get (D := D) (ci := 4) (v := .ref mk) (C := RX4) (T := TX4) (N := 21) hx hb hw iwX4 hown hK.1 hP 0 rfl rfl 1 (by decide) (hw _ xw_293) (fun _ h9 => h9) rfl dX4_scan_70 ?_
          refine lv_iload_n hx hb dX4_scan_73 rfl (lv_at hl 1 rfl) ?_
          refine va_iald hx hb hK.1 hP 2 0 rfl rfl (by rw [eq1]; exact vp_in_nI hq1 (by decide)) dX4_scan_74 ?_
          refine es_top (y := es_kd ki (es_q ar (es_at (es_lk mx n) b) (i + 1))) (es_kd_q eq1 hq1) ?_
          refine lv_if_lt (tgt := 19) hx hb dX4_scan_75 (by decide) (fun c_75 => ?_) (fun c_75 => ?_)
          ·
            exact ih (i + 1) (es_q ar (es_at (es_lk mx n) b) (i + 1)) le kd (es_i_le hn hx_ hq0) rfl (lt_s hne (fun z => es_nnm (by omega) (hx_.trans z))) (hle.trans (es_bl_s0 (es_kd_m1 htk eq1 hq1 c_75)).1.symm) (hkd.trans (es_bl_s0 (es_kd_m1 htk eq1 hq1 c_75)).2.symm) (by have := es_i_le hn hx_ hq0; omega) H locs (hP.sub [0, 1, 2, 3] rfl) (hD.sub [0, 1, 2, 3] (by decide) rfl) hS ls (lv_sub hl [2, 3, 1, 0] rfl)
          ·
            refine lv_aload_n hx hb dX4_scan_78 rfl (lv_at hl 2 rfl) ?_
            refine lv_iload_n hx hb dX4_scan_79 rfl (lv_at hl 0 rfl) ?_
            refine lv_iload_n hx hb dX4_scan_80 rfl (lv_at hl 3 rfl) ?_
            refine lv_isub hx hb dX4_scan_81 ?_
            refine es_top (y := nI (i + 1)) es_subb ?_
            refine va_put (D := D) (ci := 4) (v := .int (nI (i + 1))) (ty := .int) (C := RX4) (T := TX4) (N := 21) hx hb hw iwX4 tyX4 tyX4_ok nmX4 hown hK.1 hP hD hS 0 rfl rfl 18 (by decide) (hw _ xw_303) (fun _ h9 => h9) rfl (by decide +kernel) rfl rfl (Nat.le_of_ble_eq_true rfl) dX4_scan_82 (fun H locs hP hD hS => ?_)
            have hP : va_P D vwCl [(mo, .inr (4, [.ref ma, .ref mk, .ref mtx, .int (nI n), .int (nI tn), .ref m0, .ref m1, .ref m2, .ref m3, .int fl, .int fk, .int ot, .ref mb, .int of_, .int os_, .int (nI rd), .int (nI sc), .int (nI ed), .int (nI (i + 1)), .int kd, .int (nI (i + 1))])), (ma, .inl (cI, 200, .inl ar)), (mk, .inl (cI, 20, .inl ki)), (mtx, .inl (cI, 400, .inl mx))] H := hP
            have hD : va_D A [(mo, .inr (4, [.ref ma, .ref mk, .ref mtx, .int (nI n), .int (nI tn), .ref m0, .ref m1, .ref m2, .ref m3, .int fl, .int fk, .int ot, .ref mb, .int of_, .int os_, .int (nI rd), .int (nI sc), .int (nI ed), .int (nI (i + 1)), .int kd, .int (nI (i + 1))])), (ma, .inl (cI, 200, .inl ar)), (mk, .inl (cI, 20, .inl ki)), (mtx, .inl (cI, 400, .inl mx))] := hD
            refine lv_aload_n hx hb dX4_scan_85 rfl (lv_at hl 2 rfl) ?_
            refine lv_aload_n hx hb dX4_scan_86 rfl (lv_at hl 2 rfl) ?_
            refine va_get (D := D) (ci := 4) (v := .ref mk) (C := RX4) (T := TX4) (N := 21) hx hb hw iwX4 hown hK.1 hP 0 rfl rfl 1 (by decide) (hw _ xw_293) (fun _ h9 => h9) rfl dX4_scan_87 ?_
            refine lv_iload_n hx hb dX4_scan_90 rfl (lv_at hl 1 rfl) ?_
            refine va_iald hx hb hK.1 hP 2 0 rfl rfl (by rw [eq1]; exact vp_in_nI hq1 (by decide)) dX4_scan_91 ?_
            refine es_top (y := es_kd ki (es_q ar (es_at (es_lk mx n) b) (i + 1))) (es_kd_q eq1 hq1) ?_
            refine va_put (D := D) (ci := 4) (v := .int (es_kd ki (es_q ar (es_at (es_lk mx n) b) (i + 1)))) (ty := .int) (C := RX4) (T := TX4) (N := 21) hx hb hw iwX4 tyX4 tyX4_ok nmX4 hown hK.1 hP hD hS 0 rfl rfl 19 (by decide) (hw _ xw_307) (fun _ h9 => h9) rfl (by decide +kernel) rfl rfl (Nat.le_of_ble_eq_true rfl) dX4_scan_92 (fun H locs hP hD hS => ?_)
            have hP : va_P D vwCl [(mo, .inr (4, [.ref ma, .ref mk, .ref mtx, .int (nI n), .int (nI tn), .ref m0, .ref m1, .ref m2, .ref m3, .int fl, .int fk, .int ot, .ref mb, .int of_, .int os_, .int (nI rd), .int (nI sc), .int (nI ed), .int (nI (i + 1)), .int (es_kd ki (es_q ar (es_at (es_lk mx n) b) (i + 1))), .int (nI (i + 1))])), (ma, .inl (cI, 200, .inl ar)), (mk, .inl (cI, 20, .inl ki)), (mtx, .inl (cI, 400, .inl mx))] H := hP
            have hD : va_D A [(mo, .inr (4, [.ref ma, .ref mk, .ref mtx, .int (nI n), .int (nI tn), .ref m0, .ref m1, .ref m2, .ref m3, .int fl, .int fk, .int ot, .ref mb, .int of_, .int os_, .int (nI rd), .int (nI sc), .int (nI ed), .int (nI (i + 1)), .int (es_kd ki (es_q ar (es_at (es_lk mx n) b) (i + 1))), .int (nI (i + 1))])), (ma, .inl (cI, 200, .inl ar)), (mk, .inl (cI, 20, .inl ki)), (mtx, .inl (cI, 400, .inl mx))] := hD
            refine lv_goto (tgt := 19) hx hb dX4_scan_95 (by decide) ?_
            exact ih (i + 1) (es_q ar (es_at (es_lk mx n) b) (i + 1)) (i + 1) (es_kd ki (es_q ar (es_at (es_lk mx n) b) (i + 1))) (es_i_le hn hx_ hq0) rfl (lt_s hne (fun z => es_nnm (by omega) (hx_.trans z))) (es_bl_s1 (es_nlt_m1 c_75)).1.symm (es_bl_s1 (es_nlt_m1 c_75)).2.symm (by have := es_i_le hn hx_ hq0; omega) H locs (hP.sub [0, 1, 2, 3] rfl) (hD.sub [0, 1, 2, 3] (by decide) rfl) hS ls (lv_sub hl [2, 3, 1, 0] rfl)
set_option maxHeartbeats 1000000 in
set_option maxRecDepth 100000 in
/-- X4.scan  -/
theorem c_X4_scan (l : Launch) (D : va_G) (cI : ClassId) (sz : Nat) (mo : Nat) (ma : Nat) (mk : Nat) (mtx : Nat) (m0 : Nat) (m1 : Nat) (m2 : Nat) (m3 : Nat) (mb : Nat) (ar : Nat → Int32) (ki : Nat → Int32) (mx : Nat → Int32) (n : Nat) (tn : Nat) (fl : Int32) (fk : Int32) (ot : Int32) (of_ : Int32) (os_ : Int32) (rd : Nat) (sc : Nat) (ed : Nat) (ts : Int32) (tkd : Int32) (tl : Int32) (b : Nat) (hta : es_ta ar) (htk : es_tk2 ki) (htt : es_tt mx n) (hn : n ≤ 400) (hbn : b < n) : Met l yX4_scan (Cond.code yX4_scan cX4_scan 4 (some .boolean) :: es_T) { frames := 0, cells := 0, slots := 0, locals := 0 } (va_Pc [.ref mo, .int (nI b)] (es_W D cI sz [(mo, .inr (4, [.ref ma, .ref mk, .ref mtx, .int (nI n), .int (nI tn), .ref m0, .ref m1, .ref m2, .ref m3, .int fl, .int fk, .int ot, .ref mb, .int of_, .int os_, .int (nI rd), .int (nI sc), .int (nI ed), .int ts, .int tkd, .int tl])), (ma, .inl (cI, 200, .inl ar)), (mk, .inl (cI, 20, .inl ki)), (mtx, .inl (cI, 400, .inl mx))])) (va_Qi (fun q _ => q = if 0 < es_Le ar ki (es_lk mx n) b then nI 1 else nI 0) (fun (u : Unit) zt => va_P D vwCl [(mo, .inr (4, [.ref ma, .ref mk, .ref mtx, .int (nI n), .int (nI tn), .ref m0, .ref m1, .ref m2, .ref m3, .int fl, .int fk, .int ot, .ref mb, .int of_, .int os_, .int (nI rd), .int (nI sc), .int (nI ed), .int (nI (es_Le ar ki (es_lk mx n) b)), .int (es_Kd ar ki (es_lk mx n) b), .int (nI (es_Lo ar (es_lk mx n) b))])), (ma, .inl (cI, 200, .inl ar)), (mk, .inl (cI, 20, .inl ki)), (mtx, .inl (cI, 400, .inl mx))] zt.heap ∧ va_D (va_A [(mo, .inr (4, [.ref ma, .ref mk, .ref mtx, .int (nI n), .int (nI tn), .ref m0, .ref m1, .ref m2, .ref m3, .int fl, .int fk, .int ot, .ref mb, .int of_, .int os_, .int (nI rd), .int (nI sc), .int (nI ed), .int ts, .int tkd, .int tl])), (ma, .inl (cI, 200, .inl ar)), (mk, .inl (cI, 20, .inl ki)), (mtx, .inl (cI, 400, .inl mx))] sz) [(mo, .inr (4, [.ref ma, .ref mk, .ref mtx, .int (nI n), .int (nI tn), .ref m0, .ref m1, .ref m2, .ref m3, .int fl, .int fk, .int ot, .ref mb, .int of_, .int os_, .int (nI rd), .int (nI sc), .int (nI ed), .int (nI (es_Le ar ki (es_lk mx n) b)), .int (es_Kd ar ki (es_lk mx n) b), .int (nI (es_Lo ar (es_lk mx n) b))])), (ma, .inl (cI, 200, .inl ar)), (mk, .inl (cI, 20, .inl ki)), (mtx, .inl (cI, 400, .inl mx))]) (va_A [(mo, .inr (4, [.ref ma, .ref mk, .ref mtx, .int (nI n), .int (nI tn), .ref m0, .ref m1, .ref m2, .ref m3, .int fl, .int fk, .int ot, .ref mb, .int of_, .int os_, .int (nI rd), .int (nI sc), .int (nI ed), .int ts, .int tkd, .int tl])), (ma, .inl (cI, 200, .inl ar)), (mk, .inl (cI, 20, .inl ki)), (mtx, .inl (cI, 400, .inl mx))] sz)) 0 0 (va_A [(mo, .inr (4, [.ref ma, .ref mk, .ref mtx, .int (nI n), .int (nI tn), .ref m0, .ref m1, .ref m2, .ref m3, .int fl, .int fk, .int ot, .ref mb, .int of_, .int os_, .int (nI rd), .int (nI sc), .int (nI ed), .int ts, .int tkd, .int tl])), (ma, .inl (cI, 200, .inl ar)), (mk, .inl (cI, 20, .inl ki)), (mtx, .inl (cI, 400, .inl mx))] sz) := by
  refine Met.ofW (cc := cX4_scan) (maxL := 4) (ret := (some .boolean)) (by decide) rfl ?_
  intro p e s m args below meth c s₁ B hml hv
  obtain ⟨rfl, hsz, hP, hK, hD0⟩ := hv
  have hx := B.exec
  have hb := B.bytes
  have hr := B.returns
  have hts := atoms_spec (ws := (Cond.code yX4_scan cX4_scan 4 (some .boolean) :: es_T)) B.pre
  have hw : ∀ w ∈ es_T, w.before _ s = true := fun w h => hts w (List.mem_cons_of_mem _ h)
  have hown : s.vm.findClass RX4 = some m.cls := findClass_of_methodNamed B.named
  have hlocks := B.notSynchronized
  have hRm : 0 ≤ (headSpec (Cond.code yX4_scan cX4_scan 4 (some .boolean) :: es_T) { frames := 0, cells := 0, slots := 0, locals := 0 }).room.frames ∧ 0 ≤ (headSpec (Cond.code yX4_scan cX4_scan 4 (some .boolean) :: es_T) { frames := 0, cells := 0, slots := 0, locals := 0 }).room.locals := ⟨Nat.le_refl _, Nat.le_refl _⟩
  have hRc : 0 ≤ (headSpec (Cond.code yX4_scan cX4_scan 4 (some .boolean) :: es_T) { frames := 0, cells := 0, slots := 0, locals := 0 }).room.cells ∧ 0 ≤ (headSpec (Cond.code yX4_scan cX4_scan 4 (some .boolean) :: es_T) { frames := 0, cells := 0, slots := 0, locals := 0 }).room.slots := ⟨Nat.le_refl _, Nat.le_refl _⟩
  subst hsz
  have hD := hD0.self (sz := s.heap.size)
  generalize hAe : va_A [(mo, .inr (4, [.ref ma, .ref mk, .ref mtx, .int (nI n), .int (nI tn), .ref m0, .ref m1, .ref m2, .ref m3, .int fl, .int fk, .int ot, .ref mb, .int of_, .int os_, .int (nI rd), .int (nI sc), .int (nI ed), .int ts, .int tkd, .int tl])), (ma, .inl (cI, 200, .inl ar)), (mk, .inl (cI, 20, .inl ki)), (mtx, .inl (cI, 400, .inl mx))] s.heap.size = A at hD ⊢
  have hA : ∀ q : Nat, s.heap.size ≤ q → A q := fun q h => by rw [← hAe]; exact Or.inr h
  have hS : va_S A s.heap s.heap [] := va_S.rf
  have hl := lv_entry ([.ref mo, .int (nI b)]) (n := 4) (Nat.le_of_ble_eq_true rfl)
  rw [lg_entry_eq]
  generalize (lg_sl ([.ref mo, .int (nI b)]) ++ List.replicate (4 - (lg_sl ([.ref mo, .int (nI b)])).length) Slot.unset).toArray = ls at hl ⊢
  have hl : lv_has ls 4 [(0, .ref mo), (1, .int (nI b))] := hl
  have hsy := es_tt_sy htt
  refine lv_aload_n hx hb dX4_scan_0 rfl (lv_at hl 0 rfl) ?_
  refine lv_iconst (v := nI 0) hx hb dX4_scan_1 (by decide) ?_
  refine va_put (D := D) (ci := 4) (v := .int (nI 0)) (ty := .int) (C := RX4) (T := TX4) (N := 21) hx hb hw iwX4 tyX4 tyX4_ok nmX4 hown hK.1 hP hD hS 0 rfl rfl 18 (by decide) (hw _ xw_303) (fun _ h9 => h9) rfl (by decide +kernel) rfl rfl (Nat.le_of_ble_eq_true rfl) dX4_scan_2 (fun H locs hP hD hS => ?_)
  have hP : va_P D vwCl [(mo, .inr (4, [.ref ma, .ref mk, .ref mtx, .int (nI n), .int (nI tn), .ref m0, .ref m1, .ref m2, .ref m3, .int fl, .int fk, .int ot, .ref mb, .int of_, .int os_, .int (nI rd), .int (nI sc), .int (nI ed), .int (nI 0), .int tkd, .int tl])), (ma, .inl (cI, 200, .inl ar)), (mk, .inl (cI, 20, .inl ki)), (mtx, .inl (cI, 400, .inl mx))] H := hP
  have hD : va_D A [(mo, .inr (4, [.ref ma, .ref mk, .ref mtx, .int (nI n), .int (nI tn), .ref m0, .ref m1, .ref m2, .ref m3, .int fl, .int fk, .int ot, .ref mb, .int of_, .int os_, .int (nI rd), .int (nI sc), .int (nI ed), .int (nI 0), .int tkd, .int tl])), (ma, .inl (cI, 200, .inl ar)), (mk, .inl (cI, 20, .inl ki)), (mtx, .inl (cI, 400, .inl mx))] := hD
  refine lv_aload_n hx hb dX4_scan_5 rfl (lv_at hl 0 rfl) ?_
  refine lv_iconst (v := (-1)) hx hb dX4_scan_6 (by decide) ?_
  refine va_put (D := D) (ci := 4) (v := .int (-1)) (ty := .int) (C := RX4) (T := TX4) (N := 21) hx hb hw iwX4 tyX4 tyX4_ok nmX4 hown hK.1 hP hD hS 0 rfl rfl 19 (by decide) (hw _ xw_307) (fun _ h9 => h9) rfl (by decide +kernel) rfl rfl (Nat.le_of_ble_eq_true rfl) dX4_scan_7 (fun H locs hP hD hS => ?_)
  have hP : va_P D vwCl [(mo, .inr (4, [.ref ma, .ref mk, .ref mtx, .int (nI n), .int (nI tn), .ref m0, .ref m1, .ref m2, .ref m3, .int fl, .int fk, .int ot, .ref mb, .int of_, .int os_, .int (nI rd), .int (nI sc), .int (nI ed), .int (nI 0), .int (-1), .int tl])), (ma, .inl (cI, 200, .inl ar)), (mk, .inl (cI, 20, .inl ki)), (mtx, .inl (cI, 400, .inl mx))] H := hP
  have hD : va_D A [(mo, .inr (4, [.ref ma, .ref mk, .ref mtx, .int (nI n), .int (nI tn), .ref m0, .ref m1, .ref m2, .ref m3, .int fl, .int fk, .int ot, .ref mb, .int of_, .int os_, .int (nI rd), .int (nI sc), .int (nI ed), .int (nI 0), .int (-1), .int tl])), (ma, .inl (cI, 200, .inl ar)), (mk, .inl (cI, 20, .inl ki)), (mtx, .inl (cI, 400, .inl mx))] := hD
  refine lv_aload_n hx hb dX4_scan_10 rfl (lv_at hl 0 rfl) ?_
  refine lv_iconst (v := nI 0) hx hb dX4_scan_11 (by decide) ?_
  refine va_put (D := D) (ci := 4) (v := .int (nI 0)) (ty := .int) (C := RX4) (T := TX4) (N := 21) hx hb hw iwX4 tyX4 tyX4_ok nmX4 hown hK.1 hP hD hS 0 rfl rfl 20 (by decide) (hw _ xw_302) (fun _ h9 => h9) rfl (by decide +kernel) rfl rfl (Nat.le_of_ble_eq_true rfl) dX4_scan_12 (fun H locs hP hD hS => ?_)
  have hP : va_P D vwCl [(mo, .inr (4, [.ref ma, .ref mk, .ref mtx, .int (nI n), .int (nI tn), .ref m0, .ref m1, .ref m2, .ref m3, .int fl, .int fk, .int ot, .ref mb, .int of_, .int os_, .int (nI rd), .int (nI sc), .int (nI ed), .int (nI 0), .int (-1), .int (nI 0)])), (ma, .inl (cI, 200, .inl ar)), (mk, .inl (cI, 20, .inl ki)), (mtx, .inl (cI, 400, .inl mx))] H := hP
  have hD : va_D A [(mo, .inr (4, [.ref ma, .ref mk, .ref mtx, .int (nI n), .int (nI tn), .ref m0, .ref m1, .ref m2, .ref m3, .int fl, .int fk, .int ot, .ref mb, .int of_, .int os_, .int (nI rd), .int (nI sc), .int (nI ed), .int (nI 0), .int (-1), .int (nI 0)])), (ma, .inl (cI, 200, .inl ar)), (mk, .inl (cI, 20, .inl ki)), (mtx, .inl (cI, 400, .inl mx))] := hD
  refine lv_iconst (v := nI 0) hx hb dX4_scan_15 (by decide) ?_
  refine lv_istore_n (lv' := [(2, .int (nI 0)), (0, .ref mo), (1, .int (nI b))]) hx hb dX4_scan_16 rfl hl (by decide) rfl (fun ls hl => ?_)
  refine lv_iload_n hx hb dX4_scan_17 rfl (lv_at hl 2 rfl) ?_
  refine lv_istore_n (lv' := [(3, .int (nI b)), (2, .int (nI 0)), (0, .ref mo), (1, .int (nI b))]) hx hb dX4_scan_18 rfl hl (by decide) rfl (fun ls hl => ?_)
  refine lp_mScan D cI mo ma mk mtx m0 m1 m2 m3 mb ar ki mx n tn fl fk ot of_ os_ rd sc ed b hx hb hml hown hw hK ⟨Nat.le_trans (Nat.le_of_ble_eq_true rfl) hRm.1, Nat.le_trans (Nat.le_of_ble_eq_true rfl) hRm.2⟩ hA (by first | assumption | omega) (by first | assumption | omega) (by first | assumption | omega) (by first | assumption | omega) (by first | assumption | omega) (fun L le kd hL hle hkd H locs hP hD hS ls hl => ?_) ((402 - 0) + 1) 0 (nI 0) 0 (-1) (Nat.zero_le _) rfl (fun j h => absurd h (Nat.not_lt_zero _)) rfl rfl (Nat.lt_succ_self _) H locs (hP.sub [0, 1, 2, 3] rfl) (hD.sub [0, 1, 2, 3] (by decide) rfl) hS ls (lv_sub hl [2, 3, 1, 0] rfl)
  subst hL
  subst hle
  subst hkd
  have hLe := es_Le_lt (ar := ar) (ki := ki) (lk := es_lk mx n) (b := b) (e := n - b) (es_lk_end (by omega)) (by omega)
  refine lv_aload_n hx hb dX4_scan_98 rfl (lv_at hl 0 rfl) ?_
  refine va_get (D := D) (ci := 4) (v := .int (nI (es_Le ar ki (es_lk mx n) b))) (C := RX4) (T := TX4) (N := 21) hx hb hw iwX4 hown hK.1 hP 0 rfl rfl 18 (by decide) (hw _ xw_303) (fun _ h9 => h9) rfl dX4_scan_99 ?_
  refine lv_if_le (tgt := 109) hx hb dX4_scan_102 (by decide) (fun c_102 => ?_) (fun c_102 => ?_)
  ·
    have c_102 := (nI_leI (a := (es_Le ar ki (es_lk mx n) b)) (b := 0) (by omega) (by omega)).mp c_102
    refine lv_iconst (v := nI 0) hx hb dX4_scan_109 (by decide) ?_
    exact W.zret (v := nI 0) hx hb hr rfl (fun zt ht hW => ⟨⟨_, (), rfl, (by show _ = _; first | (rw [if_pos (by omega)]; done) | (rw [if_neg (by omega)]; done)), ⟨by rw [ht]; exact hP.sub [0, 1, 2, 3] rfl, hD.sub [0, 1, 2, 3] (by decide) rfl⟩⟩, hS.F ht⟩) hS.2.2 dX4_scan_110
  ·
    have c_102 := (mt (nI_leI (a := (es_Le ar ki (es_lk mx n) b)) (b := 0) (by omega) (by omega)).mpr c_102)
    refine lv_iconst (v := nI 1) hx hb dX4_scan_105 (by decide) ?_
    refine lv_goto (tgt := 110) hx hb dX4_scan_106 (by decide) ?_
    exact W.zret (v := nI 1) hx hb hr rfl (fun zt ht hW => ⟨⟨_, (), rfl, (by show _ = _; first | (rw [if_pos (by omega)]; done) | (rw [if_neg (by omega)]; done)), ⟨by rw [ht]; exact hP.sub [0, 1, 2, 3] rfl, hD.sub [0, 1, 2, 3] (by decide) rfl⟩⟩, hS.F ht⟩) hS.2.2 dX4_scan_110
set_option maxHeartbeats 1000000 in
set_option maxRecDepth 100000 in
theorem lp_scanAll {p : Program} {l : Launch} {e : Env} {R : Room} {s : State} {m : MethodId} {args : Array Value} {below : List Frame} {meth : Method} {c : Code} {Q : State → Prop} {A : Nat → Prop} {H0 : Heap} (D : va_G) (cI : ClassId) (mo : Nat) (ma : Nat) (mk : Nat) (mtx : Nat) (m0 : Nat) (m1 : Nat) (m2 : Nat) (m3 : Nat) (mb : Nat) (ar : Nat → Int32) (ki : Nat → Int32) (mx : Nat → Int32) (n : Nat) (ot : Int32) (of_ : Int32) (os_ : Int32) (rd : Nat) (sc : Nat) (ed : Nat) (hx : p.tables.exec = Jvm.exec) (hb : c.code = cX4_scanAll) (hml : c.maxLocals = 2) (hown : s.vm.findClass RX4 = some m.cls) (hw : ∀ w ∈ es_T, w.before args s = true) (hK : es_K D cI s) (hRm : 1 ≤ R.frames ∧ 23 ≤ R.locals) (hA : ∀ q : Nat, H0.size ≤ q → A q) (hta : es_ta ar) (htk : es_tk2 ki) (htt : es_tt mx n) (hn : n ≤ 400) (hex : ∀ (E : Nat → Nat → Int32) (tn : Nat) (fl : Int32) (fk : Int32) (ts : Int32) (tkd : Int32) (tl : Int32), (∃ c, es_mdl ar ki (es_lk mx n) n c E tn fl fk) → ∀ (H : Heap) (locs : List Loc), va_P D vwCl [(mo, .inr (4, [.ref ma, .ref mk, .ref mtx, .int (nI n), .int (nI tn), .ref m0, .ref m1, .ref m2, .ref m3, .int fl, .int fk, .int ot, .ref mb, .int of_, .int os_, .int (nI rd), .int (nI sc), .int (nI ed), .int ts, .int tkd, .int tl])), (ma, .inl (cI, 200, .inl ar)), (mk, .inl (cI, 20, .inl ki)), (mtx, .inl (cI, 400, .inl mx)), (m0, .inl (cI, 400, .inl (E 0))), (m1, .inl (cI, 400, .inl (E 1))), (m2, .inl (cI, 400, .inl (E 2))), (m3, .inl (cI, 400, .inl (E 3)))] H → va_D A [(mo, .inr (4, [.ref ma, .ref mk, .ref mtx, .int (nI n), .int (nI tn), .ref m0, .ref m1, .ref m2, .ref m3, .int fl, .int fk, .int ot, .ref mb, .int of_, .int os_, .int (nI rd), .int (nI sc), .int (nI ed), .int ts, .int tkd, .int tl])), (ma, .inl (cI, 200, .inl ar)), (mk, .inl (cI, 20, .inl ki)), (mtx, .inl (cI, 400, .inl mx)), (m0, .inl (cI, 400, .inl (E 0))), (m1, .inl (cI, 400, .inl (E 1))), (m2, .inl (cI, 400, .inl (E 2))), (m3, .inl (cI, 400, .inl (E 3)))] → va_S A H0 H locs → ∀ (ls : Array Slot), lv_has ls 2 [(0, .ref mo)] →  W p l e R s m args below meth c H locs 0 0 Q (F0 m 125 ls [])) : ∀ (N : Nat) (E : Nat → Nat → Int32) (tn : Nat) (b : Nat) (fl : Int32) (fk : Int32) (ts : Int32) (tkd : Int32) (tl : Int32) (ph : Nat), (es_fnd ar ki (es_lk mx n) E tn) → (∀ i, i < tn → es_B (es_Le ar ki (es_lk mx n)) i < n ∧ 0 < es_Le ar ki (es_lk mx n) (es_B (es_Le ar ki (es_lk mx n)) i)) → (b = es_B (es_Le ar ki (es_lk mx n)) tn) → (b ≤ n) → (es_ph ar ki (es_lk mx n) n b ph fl fk) → (n - b + ph) < N → ∀ (H : Heap) (locs : List Loc), va_P D vwCl [(mo, .inr (4, [.ref ma, .ref mk, .ref mtx, .int (nI n), .int (nI tn), .ref m0, .ref m1, .ref m2, .ref m3, .int fl, .int fk, .int ot, .ref mb, .int of_, .int os_, .int (nI rd), .int (nI sc), .int (nI ed), .int ts, .int tkd, .int tl])), (ma, .inl (cI, 200, .inl ar)), (mk, .inl (cI, 20, .inl ki)), (mtx, .inl (cI, 400, .inl mx)), (m0, .inl (cI, 400, .inl (E 0))), (m1, .inl (cI, 400, .inl (E 1))), (m2, .inl (cI, 400, .inl (E 2))), (m3, .inl (cI, 400, .inl (E 3)))] H → va_D A [(mo, .inr (4, [.ref ma, .ref mk, .ref mtx, .int (nI n), .int (nI tn), .ref m0, .ref m1, .ref m2, .ref m3, .int fl, .int fk, .int ot, .ref mb, .int of_, .int os_, .int (nI rd), .int (nI sc), .int (nI ed), .int ts, .int tkd, .int tl])), (ma, .inl (cI, 200, .inl ar)), (mk, .inl (cI, 20, .inl ki)), (mtx, .inl (cI, 400, .inl mx)), (m0, .inl (cI, 400, .inl (E 0))), (m1, .inl (cI, 400, .inl (E 1))), (m2, .inl (cI, 400, .inl (E 2))), (m3, .inl (cI, 400, .inl (E 3)))] → va_S A H0 H locs → ∀ (ls : Array Slot), lv_has ls 2 [(0, .ref mo), (1, .int (nI b))] →  W p l e R s m args below meth c H locs 0 0 Q (F0 m 17 ls []) := by
  intro N
  induction N with
  | zero =>
    intro E tn b fl fk ts tkd tl ph hE htok hbm hbn hph hN
    exact absurd hN (Nat.not_lt_zero _)
  | succ N ih =>
    intro E tn b fl fk ts tkd tl ph hE htok hbm hbn hph hN H locs hP hD hS ls hl
    have hmb := es_B_ge (Le := es_Le ar ki (es_lk mx n)) tn (fun i hi => (htok i hi).2)
    rw [← hbm] at hmb
    refine lv_iload_n hx hb dX4_scanAll_17 rfl (lv_at hl 1 rfl) ?_
    refine lv_aload_n hx hb dX4_scanAll_18 rfl (lv_at hl 0 rfl) ?_
    refine va_get (D := D) (ci := 4) (v := .int (nI n)) (C := RX4) (T := TX4) (N := 21) hx hb hw iwX4 hown hK.1 hP 0 rfl rfl 3 (by decide) (hw _ xw_260) (fun _ h9 => h9) rfl dX4_scanAll_19 ?_
    refine lv_icmp_ge (tgt := 125) hx hb dX4_scanAll_22 (by decide) (fun c_22 => ?_) (fun c_22 => ?_)
    ·
      have c_22 := (nI_leI (by omega) (by omega)).mp c_22
      exact hex E tn fl fk ts tkd tl (es_sa_end hE htok hbm hbn hph (Or.inl c_22))  H locs (hP.sub [0, 1, 2, 3, 4, 5, 6, 7] rfl) (hD.sub [0, 1, 2, 3, 4, 5, 6, 7] (by decide) rfl) hS ls (lv_sub hl [0] rfl)
    ·
      have c_22 := (mt (nI_leI (by omega) (by omega)).mpr c_22)
      refine lv_aload_n hx hb dX4_scanAll_25 rfl (lv_at hl 0 rfl) ?_
      refine va_get (D := D) (ci := 4) (v := .int fl) (C := RX4) (T := TX4) (N := 21) hx hb hw iwX4 hown hK.1 hP 0 rfl rfl 9 (by decide) (hw _ xw_273) (fun _ h9 => h9) rfl dX4_scanAll_26 ?_
      refine lv_if_ge (tgt := 125) hx hb dX4_scanAll_29 (by decide) (fun c_29 => ?_) (fun c_29 => ?_)
      ·
        exact hex E tn fl fk ts tkd tl (es_sa_end hE htok hbm hbn hph (Or.inr c_29))  H locs (hP.sub [0, 1, 2, 3, 4, 5, 6, 7] rfl) (hD.sub [0, 1, 2, 3, 4, 5, 6, 7] (by decide) rfl) hS ls (lv_sub hl [0] rfl)
      ·
        obtain ⟨hp1, hp2, hp3⟩ := es_ph1 hn hph c_29
        have hLl := es_Le_lt (ar := ar) (ki := ki) (lk := es_lk mx n) (b := b) (e := n - b) (es_lk_end (by omega)) (by omega)
        refine lv_aload_n hx hb dX4_scanAll_32 rfl (lv_at hl 0 rfl) ?_
        refine lv_iload_n hx hb dX4_scanAll_33 rfl (lv_at hl 1 rfl) ?_
        refine es_ci (wr := [(m0, .inl (cI, 400, .inl (E 0))), (m1, .inl (cI, 400, .inl (E 1))), (m2, .inl (cI, 400, .inl (E 2))), (m3, .inl (cI, 400, .inl (E 3)))]) (va_runV (As := [.int (nI b)]) (rest := []) ⟨hx, hb, hml, hown, hw⟩ (c_X4_scan l D cI H.size mo ma mk mtx m0 m1 m2 m3 mb ar ki mx n tn fl fk ot of_ os_ rd sc ed ts tkd tl b (by first | assumption | omega) (by first | assumption | omega) (by first | assumption | omega) (by first | assumption | omega) (by first | assumption | omega)) (cwV 1 hw (es_v xw_298 xw_299 xw_300 xw_301 xw_8) rfl rfl rfl kv_X4_scan ⟨Nat.le_trans (Nat.le_of_ble_eq_true rfl) hRm.1, Nat.le_trans (Nat.le_of_ble_eq_true rfl) hRm.2⟩) (es_WV hK (hP.sub (ws' := [(mo, .inr (4, [.ref ma, .ref mk, .ref mtx, .int (nI n), .int (nI tn), .ref m0, .ref m1, .ref m2, .ref m3, .int fl, .int fk, .int ot, .ref mb, .int of_, .int os_, .int (nI rd), .int (nI sc), .int (nI ed), .int ts, .int tkd, .int tl])), (ma, .inl (cI, 200, .inl ar)), (mk, .inl (cI, 20, .inl ki)), (mtx, .inl (cI, 400, .inl mx))]) [0, 1, 2, 3] rfl) (hD.sub (ws' := [(mo, .inr (4, [.ref ma, .ref mk, .ref mtx, .int (nI n), .int (nI tn), .ref m0, .ref m1, .ref m2, .ref m3, .int fl, .int fk, .int ot, .ref mb, .int of_, .int os_, .int (nI rd), .int (nI sc), .int (nI ed), .int ts, .int tkd, .int tl])), (ma, .inl (cI, 200, .inl ar)), (mk, .inl (cI, 20, .inl ki)), (mtx, .inl (cI, 400, .inl mx))]) [0, 1, 2, 3] (by decide) rfl) rfl rfl) rfl rfl hl.1 rfl (lv_room (Nat.le_of_ble_eq_true rfl)) dX4_scanAll_34 ⟨(Nat.zero_le _), (Nat.zero_le _)⟩) hP hD hS hA [0, 1, 2, 3] [4, 5, 6, 7] rfl rfl (by decide) (by decide) (fun rq uq H locs huq hP hD hS => ?_)
        have hP : va_P D vwCl [(m0, .inl (cI, 400, .inl (E 0))), (m1, .inl (cI, 400, .inl (E 1))), (m2, .inl (cI, 400, .inl (E 2))), (m3, .inl (cI, 400, .inl (E 3))), (mo, .inr (4, [.ref ma, .ref mk, .ref mtx, .int (nI n), .int (nI tn), .ref m0, .ref m1, .ref m2, .ref m3, .int fl, .int fk, .int ot, .ref mb, .int of_, .int os_, .int (nI rd), .int (nI sc), .int (nI ed), .int (nI (es_Le ar ki (es_lk mx n) b)), .int (es_Kd ar ki (es_lk mx n) b), .int (nI (es_Lo ar (es_lk mx n) b))])), (ma, .inl (cI, 200, .inl ar)), (mk, .inl (cI, 20, .inl ki)), (mtx, .inl (cI, 400, .inl mx))] H := hP
        have hD : va_D A [(m0, .inl (cI, 400, .inl (E 0))), (m1, .inl (cI, 400, .inl (E 1))), (m2, .inl (cI, 400, .inl (E 2))), (m3, .inl (cI, 400, .inl (E 3))), (mo, .inr (4, [.ref ma, .ref mk, .ref mtx, .int (nI n), .int (nI tn), .ref m0, .ref m1, .ref m2, .ref m3, .int fl, .int fk, .int ot, .ref mb, .int of_, .int os_, .int (nI rd), .int (nI sc), .int (nI ed), .int (nI (es_Le ar ki (es_lk mx n) b)), .int (es_Kd ar ki (es_lk mx n) b), .int (nI (es_Lo ar (es_lk mx n) b))])), (ma, .inl (cI, 200, .inl ar)), (mk, .inl (cI, 20, .inl ki)), (mtx, .inl (cI, 400, .inl mx))] := hD
        obtain ⟨mr, hmr, rfl⟩ := es_rq huq
        refine lv_if_eq (tgt := 109) hx hb dX4_scanAll_37 (by decide) (fun c_37 => ?_) (fun c_37 => ?_)
        ·
          have c_37 := (nI_eq (a := mr) (b := 0) (by omega) (by omega)).mp c_37
          refine lv_aload_n hx hb dX4_scanAll_109 rfl (lv_at hl 0 rfl) ?_
          refine lv_iload_n hx hb dX4_scanAll_110 rfl (lv_at hl 1 rfl) ?_
          refine va_put (D := D) (ci := 4) (v := .int (nI b)) (ty := .int) (C := RX4) (T := TX4) (N := 21) hx hb hw iwX4 tyX4 tyX4_ok nmX4 hown hK.1 hP hD hS 4 rfl rfl 9 (by decide) (hw _ xw_273) (fun _ h9 => h9) rfl (by decide +kernel) rfl rfl (Nat.le_of_ble_eq_true rfl) dX4_scanAll_111 (fun H locs hP hD hS => ?_)
          have hP : va_P D vwCl [(m0, .inl (cI, 400, .inl (E 0))), (m1, .inl (cI, 400, .inl (E 1))), (m2, .inl (cI, 400, .inl (E 2))), (m3, .inl (cI, 400, .inl (E 3))), (mo, .inr (4, [.ref ma, .ref mk, .ref mtx, .int (nI n), .int (nI tn), .ref m0, .ref m1, .ref m2, .ref m3, .int (nI b), .int fk, .int ot, .ref mb, .int of_, .int os_, .int (nI rd), .int (nI sc), .int (nI ed), .int (nI (es_Le ar ki (es_lk mx n) b)), .int (es_Kd ar ki (es_lk mx n) b), .int (nI (es_Lo ar (es_lk mx n) b))])), (ma, .inl (cI, 200, .inl ar)), (mk, .inl (cI, 20, .inl ki)), (mtx, .inl (cI, 400, .inl mx))] H := hP
          have hD : va_D A [(m0, .inl (cI, 400, .inl (E 0))), (m1, .inl (cI, 400, .inl (E 1))), (m2, .inl (cI, 400, .inl (E 2))), (m3, .inl (cI, 400, .inl (E 3))), (mo, .inr (4, [.ref ma, .ref mk, .ref mtx, .int (nI n), .int (nI tn), .ref m0, .ref m1, .ref m2, .ref m3, .int (nI b), .int fk, .int ot, .ref mb, .int of_, .int os_, .int (nI rd), .int (nI sc), .int (nI ed), .int (nI (es_Le ar ki (es_lk mx n) b)), .int (es_Kd ar ki (es_lk mx n) b), .int (nI (es_Lo ar (es_lk mx n) b))])), (ma, .inl (cI, 200, .inl ar)), (mk, .inl (cI, 20, .inl ki)), (mtx, .inl (cI, 400, .inl mx))] := hD
          refine lv_aload_n hx hb dX4_scanAll_114 rfl (lv_at hl 0 rfl) ?_
          refine lv_aload_n hx hb dX4_scanAll_115 rfl (lv_at hl 0 rfl) ?_
          refine va_get (D := D) (ci := 4) (v := .int (nI (es_Lo ar (es_lk mx n) b))) (C := RX4) (T := TX4) (N := 21) hx hb hw iwX4 hown hK.1 hP 4 rfl rfl 20 (by decide) (hw _ xw_302) (fun _ h9 => h9) rfl dX4_scanAll_116 ?_
          refine va_put (D := D) (ci := 4) (v := .int (nI (es_Lo ar (es_lk mx n) b))) (ty := .int) (C := RX4) (T := TX4) (N := 21) hx hb hw iwX4 tyX4 tyX4_ok nmX4 hown hK.1 hP hD hS 4 rfl rfl 10 (by decide) (hw _ xw_274) (fun _ h9 => h9) rfl (by decide +kernel) rfl rfl (Nat.le_of_ble_eq_true rfl) dX4_scanAll_119 (fun H locs hP hD hS => ?_)
          have hP : va_P D vwCl [(m0, .inl (cI, 400, .inl (E 0))), (m1, .inl (cI, 400, .inl (E 1))), (m2, .inl (cI, 400, .inl (E 2))), (m3, .inl (cI, 400, .inl (E 3))), (mo, .inr (4, [.ref ma, .ref mk, .ref mtx, .int (nI n), .int (nI tn), .ref m0, .ref m1, .ref m2, .ref m3, .int (nI b), .int (nI (es_Lo ar (es_lk mx n) b)), .int ot, .ref mb, .int of_, .int os_, .int (nI rd), .int (nI sc), .int (nI ed), .int (nI (es_Le ar ki (es_lk mx n) b)), .int (es_Kd ar ki (es_lk mx n) b), .int (nI (es_Lo ar (es_lk mx n) b))])), (ma, .inl (cI, 200, .inl ar)), (mk, .inl (cI, 20, .inl ki)), (mtx, .inl (cI, 400, .inl mx))] H := hP
          have hD : va_D A [(m0, .inl (cI, 400, .inl (E 0))), (m1, .inl (cI, 400, .inl (E 1))), (m2, .inl (cI, 400, .inl (E 2))), (m3, .inl (cI, 400, .inl (E 3))), (mo, .inr (4, [.ref ma, .ref mk, .ref mtx, .int (nI n), .int (nI tn), .ref m0, .ref m1, .ref m2, .ref m3, .int (nI b), .int (nI (es_Lo ar (es_lk mx n) b)), .int ot, .ref mb, .int of_, .int os_, .int (nI rd), .int (nI sc), .int (nI ed), .int (nI (es_Le ar ki (es_lk mx n) b)), .int (es_Kd ar ki (es_lk mx n) b), .int (nI (es_Lo ar (es_lk mx n) b))])), (ma, .inl (cI, 200, .inl ar)), (mk, .inl (cI, 20, .inl ki)), (mtx, .inl (cI, 400, .inl mx))] := hD
          refine lv_goto (tgt := 17) hx hb dX4_scanAll_122 (by decide) ?_
          exact ih E tn b (nI b) (nI (es_Lo ar (es_lk mx n) b)) (nI (es_Le ar ki (es_lk mx n) b)) (es_Kd ar ki (es_lk mx n) b) (nI (es_Lo ar (es_lk mx n) b)) 0 hE htok hbm hbn (Or.inr ⟨rfl, rfl, rfl, by omega, by omega⟩) (by omega) H locs (hP.sub [4, 5, 6, 7, 0, 1, 2, 3] rfl) (hD.sub [4, 5, 6, 7, 0, 1, 2, 3] (by decide) rfl) hS ls (lv_sub hl [0, 1] rfl)
        ·
          have c_37 := (mt (nI_eq (a := mr) (b := 0) (by omega) (by omega)).mpr c_37)
          refine lv_aload_n hx hb dX4_scanAll_40 rfl (lv_at hl 0 rfl) ?_
          refine va_get (D := D) (ci := 4) (v := .ref m0) (C := RX4) (T := TX4) (N := 21) hx hb hw iwX4 hown hK.1 hP 4 rfl rfl 5 (by decide) (hw _ xw_279) (fun _ h9 => h9) rfl dX4_scanAll_41 ?_
          refine lv_aload_n hx hb dX4_scanAll_44 rfl (lv_at hl 0 rfl) ?_
          refine va_get (D := D) (ci := 4) (v := .int (nI tn)) (C := RX4) (T := TX4) (N := 21) hx hb hw iwX4 hown hK.1 hP 4 rfl rfl 4 (by decide) (hw _ xw_268) (fun _ h9 => h9) rfl dX4_scanAll_45 ?_
          refine lv_iload_n hx hb dX4_scanAll_48 rfl (lv_at hl 1 rfl) ?_
          refine es_iast hx hb hK.1 hP hD hS 0 0 rfl rfl (by omega) (Nat.le_of_ble_eq_true rfl) dX4_scanAll_49 (fun H locs hP hD hS => ?_)
          have hP : va_P D vwCl [(m0, .inl (cI, 400, .inl (upd (E 0) tn (nI b)))), (m1, .inl (cI, 400, .inl (E 1))), (m2, .inl (cI, 400, .inl (E 2))), (m3, .inl (cI, 400, .inl (E 3))), (mo, .inr (4, [.ref ma, .ref mk, .ref mtx, .int (nI n), .int (nI tn), .ref m0, .ref m1, .ref m2, .ref m3, .int fl, .int fk, .int ot, .ref mb, .int of_, .int os_, .int (nI rd), .int (nI sc), .int (nI ed), .int (nI (es_Le ar ki (es_lk mx n) b)), .int (es_Kd ar ki (es_lk mx n) b), .int (nI (es_Lo ar (es_lk mx n) b))])), (ma, .inl (cI, 200, .inl ar)), (mk, .inl (cI, 20, .inl ki)), (mtx, .inl (cI, 400, .inl mx))] H := hP
          have hD : va_D A [(m0, .inl (cI, 400, .inl (upd (E 0) tn (nI b)))), (m1, .inl (cI, 400, .inl (E 1))), (m2, .inl (cI, 400, .inl (E 2))), (m3, .inl (cI, 400, .inl (E 3))), (mo, .inr (4, [.ref ma, .ref mk, .ref mtx, .int (nI n), .int (nI tn), .ref m0, .ref m1, .ref m2, .ref m3, .int fl, .int fk, .int ot, .ref mb, .int of_, .int os_, .int (nI rd), .int (nI sc), .int (nI ed), .int (nI (es_Le ar ki (es_lk mx n) b)), .int (es_Kd ar ki (es_lk mx n) b), .int (nI (es_Lo ar (es_lk mx n) b))])), (ma, .inl (cI, 200, .inl ar)), (mk, .inl (cI, 20, .inl ki)), (mtx, .inl (cI, 400, .inl mx))] := hD
          refine lv_aload_n hx hb dX4_scanAll_50 rfl (lv_at hl 0 rfl) ?_
          refine va_get (D := D) (ci := 4) (v := .ref m1) (C := RX4) (T := TX4) (N := 21) hx hb hw iwX4 hown hK.1 hP 4 rfl rfl 6 (by decide) (hw _ xw_305) (fun _ h9 => h9) rfl dX4_scanAll_51 ?_
          refine lv_aload_n hx hb dX4_scanAll_54 rfl (lv_at hl 0 rfl) ?_
          refine va_get (D := D) (ci := 4) (v := .int (nI tn)) (C := RX4) (T := TX4) (N := 21) hx hb hw iwX4 hown hK.1 hP 4 rfl rfl 4 (by decide) (hw _ xw_268) (fun _ h9 => h9) rfl dX4_scanAll_55 ?_
          refine lv_aload_n hx hb dX4_scanAll_58 rfl (lv_at hl 0 rfl) ?_
          refine va_get (D := D) (ci := 4) (v := .int (nI (es_Le ar ki (es_lk mx n) b))) (C := RX4) (T := TX4) (N := 21) hx hb hw iwX4 hown hK.1 hP 4 rfl rfl 18 (by decide) (hw _ xw_303) (fun _ h9 => h9) rfl dX4_scanAll_59 ?_
          refine es_iast hx hb hK.1 hP hD hS 1 0 rfl rfl (by omega) (Nat.le_of_ble_eq_true rfl) dX4_scanAll_62 (fun H locs hP hD hS => ?_)
          have hP : va_P D vwCl [(m0, .inl (cI, 400, .inl (upd (E 0) tn (nI b)))), (m1, .inl (cI, 400, .inl (upd (E 1) tn (nI (es_Le ar ki (es_lk mx n) b))))), (m2, .inl (cI, 400, .inl (E 2))), (m3, .inl (cI, 400, .inl (E 3))), (mo, .inr (4, [.ref ma, .ref mk, .ref mtx, .int (nI n), .int (nI tn), .ref m0, .ref m1, .ref m2, .ref m3, .int fl, .int fk, .int ot, .ref mb, .int of_, .int os_, .int (nI rd), .int (nI sc), .int (nI ed), .int (nI (es_Le ar ki (es_lk mx n) b)), .int (es_Kd ar ki (es_lk mx n) b), .int (nI (es_Lo ar (es_lk mx n) b))])), (ma, .inl (cI, 200, .inl ar)), (mk, .inl (cI, 20, .inl ki)), (mtx, .inl (cI, 400, .inl mx))] H := hP
          have hD : va_D A [(m0, .inl (cI, 400, .inl (upd (E 0) tn (nI b)))), (m1, .inl (cI, 400, .inl (upd (E 1) tn (nI (es_Le ar ki (es_lk mx n) b))))), (m2, .inl (cI, 400, .inl (E 2))), (m3, .inl (cI, 400, .inl (E 3))), (mo, .inr (4, [.ref ma, .ref mk, .ref mtx, .int (nI n), .int (nI tn), .ref m0, .ref m1, .ref m2, .ref m3, .int fl, .int fk, .int ot, .ref mb, .int of_, .int os_, .int (nI rd), .int (nI sc), .int (nI ed), .int (nI (es_Le ar ki (es_lk mx n) b)), .int (es_Kd ar ki (es_lk mx n) b), .int (nI (es_Lo ar (es_lk mx n) b))])), (ma, .inl (cI, 200, .inl ar)), (mk, .inl (cI, 20, .inl ki)), (mtx, .inl (cI, 400, .inl mx))] := hD
          refine lv_aload_n hx hb dX4_scanAll_63 rfl (lv_at hl 0 rfl) ?_
          refine va_get (D := D) (ci := 4) (v := .ref m2) (C := RX4) (T := TX4) (N := 21) hx hb hw iwX4 hown hK.1 hP 4 rfl rfl 7 (by decide) (hw _ xw_306) (fun _ h9 => h9) rfl dX4_scanAll_64 ?_
          refine lv_aload_n hx hb dX4_scanAll_67 rfl (lv_at hl 0 rfl) ?_
          refine va_get (D := D) (ci := 4) (v := .int (nI tn)) (C := RX4) (T := TX4) (N := 21) hx hb hw iwX4 hown hK.1 hP 4 rfl rfl 4 (by decide) (hw _ xw_268) (fun _ h9 => h9) rfl dX4_scanAll_68 ?_
          refine lv_aload_n hx hb dX4_scanAll_71 rfl (lv_at hl 0 rfl) ?_
          refine va_get (D := D) (ci := 4) (v := .int (es_Kd ar ki (es_lk mx n) b)) (C := RX4) (T := TX4) (N := 21) hx hb hw iwX4 hown hK.1 hP 4 rfl rfl 19 (by decide) (hw _ xw_307) (fun _ h9 => h9) rfl dX4_scanAll_72 ?_
          refine es_iast hx hb hK.1 hP hD hS 2 0 rfl rfl (by omega) (Nat.le_of_ble_eq_true rfl) dX4_scanAll_75 (fun H locs hP hD hS => ?_)
          have hP : va_P D vwCl [(m0, .inl (cI, 400, .inl (upd (E 0) tn (nI b)))), (m1, .inl (cI, 400, .inl (upd (E 1) tn (nI (es_Le ar ki (es_lk mx n) b))))), (m2, .inl (cI, 400, .inl (upd (E 2) tn (es_Kd ar ki (es_lk mx n) b)))), (m3, .inl (cI, 400, .inl (E 3))), (mo, .inr (4, [.ref ma, .ref mk, .ref mtx, .int (nI n), .int (nI tn), .ref m0, .ref m1, .ref m2, .ref m3, .int fl, .int fk, .int ot, .ref mb, .int of_, .int os_, .int (nI rd), .int (nI sc), .int (nI ed), .int (nI (es_Le ar ki (es_lk mx n) b)), .int (es_Kd ar ki (es_lk mx n) b), .int (nI (es_Lo ar (es_lk mx n) b))])), (ma, .inl (cI, 200, .inl ar)), (mk, .inl (cI, 20, .inl ki)), (mtx, .inl (cI, 400, .inl mx))] H := hP
          have hD : va_D A [(m0, .inl (cI, 400, .inl (upd (E 0) tn (nI b)))), (m1, .inl (cI, 400, .inl (upd (E 1) tn (nI (es_Le ar ki (es_lk mx n) b))))), (m2, .inl (cI, 400, .inl (upd (E 2) tn (es_Kd ar ki (es_lk mx n) b)))), (m3, .inl (cI, 400, .inl (E 3))), (mo, .inr (4, [.ref ma, .ref mk, .ref mtx, .int (nI n), .int (nI tn), .ref m0, .ref m1, .ref m2, .ref m3, .int fl, .int fk, .int ot, .ref mb, .int of_, .int os_, .int (nI rd), .int (nI sc), .int (nI ed), .int (nI (es_Le ar ki (es_lk mx n) b)), .int (es_Kd ar ki (es_lk mx n) b), .int (nI (es_Lo ar (es_lk mx n) b))])), (ma, .inl (cI, 200, .inl ar)), (mk, .inl (cI, 20, .inl ki)), (mtx, .inl (cI, 400, .inl mx))] := hD
          refine lv_aload_n hx hb dX4_scanAll_76 rfl (lv_at hl 0 rfl) ?_
          refine va_get (D := D) (ci := 4) (v := .ref m3) (C := RX4) (T := TX4) (N := 21) hx hb hw iwX4 hown hK.1 hP 4 rfl rfl 8 (by decide) (hw _ xw_280) (fun _ h9 => h9) rfl dX4_scanAll_77 ?_
          refine lv_aload_n hx hb dX4_scanAll_80 rfl (lv_at hl 0 rfl) ?_
          refine va_get (D := D) (ci := 4) (v := .int (nI tn)) (C := RX4) (T := TX4) (N := 21) hx hb hw iwX4 hown hK.1 hP 4 rfl rfl 4 (by decide) (hw _ xw_268) (fun _ h9 => h9) rfl dX4_scanAll_81 ?_
          refine lv_aload_n hx hb dX4_scanAll_84 rfl (lv_at hl 0 rfl) ?_
          refine va_get (D := D) (ci := 4) (v := .int (nI (es_Lo ar (es_lk mx n) b))) (C := RX4) (T := TX4) (N := 21) hx hb hw iwX4 hown hK.1 hP 4 rfl rfl 20 (by decide) (hw _ xw_302) (fun _ h9 => h9) rfl dX4_scanAll_85 ?_
          refine es_iast hx hb hK.1 hP hD hS 3 0 rfl rfl (by omega) (Nat.le_of_ble_eq_true rfl) dX4_scanAll_88 (fun H locs hP hD hS => ?_)
          have hP : va_P D vwCl [(m0, .inl (cI, 400, .inl (upd (E 0) tn (nI b)))), (m1, .inl (cI, 400, .inl (upd (E 1) tn (nI (es_Le ar ki (es_lk mx n) b))))), (m2, .inl (cI, 400, .inl (upd (E 2) tn (es_Kd ar ki (es_lk mx n) b)))), (m3, .inl (cI, 400, .inl (upd (E 3) tn (nI (es_Lo ar (es_lk mx n) b))))), (mo, .inr (4, [.ref ma, .ref mk, .ref mtx, .int (nI n), .int (nI tn), .ref m0, .ref m1, .ref m2, .ref m3, .int fl, .int fk, .int ot, .ref mb, .int of_, .int os_, .int (nI rd), .int (nI sc), .int (nI ed), .int (nI (es_Le ar ki (es_lk mx n) b)), .int (es_Kd ar ki (es_lk mx n) b), .int (nI (es_Lo ar (es_lk mx n) b))])), (ma, .inl (cI, 200, .inl ar)), (mk, .inl (cI, 20, .inl ki)), (mtx, .inl (cI, 400, .inl mx))] H := hP
          have hD : va_D A [(m0, .inl (cI, 400, .inl (upd (E 0) tn (nI b)))), (m1, .inl (cI, 400, .inl (upd (E 1) tn (nI (es_Le ar ki (es_lk mx n) b))))), (m2, .inl (cI, 400, .inl (upd (E 2) tn (es_Kd ar ki (es_lk mx n) b)))), (m3, .inl (cI, 400, .inl (upd (E 3) tn (nI (es_Lo ar (es_lk mx n) b))))), (mo, .inr (4, [.ref ma, .ref mk, .ref mtx, .int (nI n), .int (nI tn), .ref m0, .ref m1, .ref m2, .ref m3, .int fl, .int fk, .int ot, .ref mb, .int of_, .int os_, .int (nI rd), .int (nI sc), .int (nI ed), .int (nI (es_Le ar ki (es_lk mx n) b)), .int (es_Kd ar ki (es_lk mx n) b), .int (nI (es_Lo ar (es_lk mx n) b))])), (ma, .inl (cI, 200, .inl ar)), (mk, .inl (cI, 20, .inl ki)), (mtx, .inl (cI, 400, .inl mx))] := hD
          refine lv_aload_n hx hb dX4_scanAll_89 rfl (lv_at hl 0 rfl) ?_
          refine lv_dup hx hb dX4_scanAll_90 rfl ?_
          refine va_get (D := D) (ci := 4) (v := .int (nI tn)) (C := RX4) (T := TX4) (N := 21) hx hb hw iwX4 hown hK.1 hP 4 rfl rfl 4 (by decide) (hw _ xw_268) (fun _ h9 => h9) rfl dX4_scanAll_91 ?_
          refine lv_iconst (v := nI 1) hx hb dX4_scanAll_94 (by decide) ?_
          refine lv_iadd hx hb dX4_scanAll_95 ?_
          refine es_top (y := nI (tn + 1)) (nI_add _ _) ?_
          refine va_put (D := D) (ci := 4) (v := .int (nI (tn + 1))) (ty := .int) (C := RX4) (T := TX4) (N := 21) hx hb hw iwX4 tyX4 tyX4_ok nmX4 hown hK.1 hP hD hS 4 rfl rfl 4 (by decide) (hw _ xw_268) (fun _ h9 => h9) rfl (by decide +kernel) rfl rfl (Nat.le_of_ble_eq_true rfl) dX4_scanAll_96 (fun H locs hP hD hS => ?_)
          have hP : va_P D vwCl [(m0, .inl (cI, 400, .inl (upd (E 0) tn (nI b)))), (m1, .inl (cI, 400, .inl (upd (E 1) tn (nI (es_Le ar ki (es_lk mx n) b))))), (m2, .inl (cI, 400, .inl (upd (E 2) tn (es_Kd ar ki (es_lk mx n) b)))), (m3, .inl (cI, 400, .inl (upd (E 3) tn (nI (es_Lo ar (es_lk mx n) b))))), (mo, .inr (4, [.ref ma, .ref mk, .ref mtx, .int (nI n), .int (nI (tn + 1)), .ref m0, .ref m1, .ref m2, .ref m3, .int fl, .int fk, .int ot, .ref mb, .int of_, .int os_, .int (nI rd), .int (nI sc), .int (nI ed), .int (nI (es_Le ar ki (es_lk mx n) b)), .int (es_Kd ar ki (es_lk mx n) b), .int (nI (es_Lo ar (es_lk mx n) b))])), (ma, .inl (cI, 200, .inl ar)), (mk, .inl (cI, 20, .inl ki)), (mtx, .inl (cI, 400, .inl mx))] H := hP
          have hD : va_D A [(m0, .inl (cI, 400, .inl (upd (E 0) tn (nI b)))), (m1, .inl (cI, 400, .inl (upd (E 1) tn (nI (es_Le ar ki (es_lk mx n) b))))), (m2, .inl (cI, 400, .inl (upd (E 2) tn (es_Kd ar ki (es_lk mx n) b)))), (m3, .inl (cI, 400, .inl (upd (E 3) tn (nI (es_Lo ar (es_lk mx n) b))))), (mo, .inr (4, [.ref ma, .ref mk, .ref mtx, .int (nI n), .int (nI (tn + 1)), .ref m0, .ref m1, .ref m2, .ref m3, .int fl, .int fk, .int ot, .ref mb, .int of_, .int os_, .int (nI rd), .int (nI sc), .int (nI ed), .int (nI (es_Le ar ki (es_lk mx n) b)), .int (es_Kd ar ki (es_lk mx n) b), .int (nI (es_Lo ar (es_lk mx n) b))])), (ma, .inl (cI, 200, .inl ar)), (mk, .inl (cI, 20, .inl ki)), (mtx, .inl (cI, 400, .inl mx))] := hD
          refine lv_iload_n hx hb dX4_scanAll_99 rfl (lv_at hl 1 rfl) ?_
          refine lv_aload_n hx hb dX4_scanAll_100 rfl (lv_at hl 0 rfl) ?_
          refine va_get (D := D) (ci := 4) (v := .int (nI (es_Le ar ki (es_lk mx n) b))) (C := RX4) (T := TX4) (N := 21) hx hb hw iwX4 hown hK.1 hP 4 rfl rfl 18 (by decide) (hw _ xw_303) (fun _ h9 => h9) rfl dX4_scanAll_101 ?_
          refine lv_iadd hx hb dX4_scanAll_104 ?_
          refine es_top (y := nI (b + (es_Le ar ki (es_lk mx n) b))) (nI_add _ _) ?_
          refine lv_istore_n (lv' := [(1, .int (nI (b + (es_Le ar ki (es_lk mx n) b)))), (0, .ref mo)]) hx hb dX4_scanAll_105 rfl hl (by decide) rfl (fun ls hl => ?_)
          refine lv_goto (tgt := 17) hx hb dX4_scanAll_106 (by decide) ?_
          exact ih (es_row4 (upd (E 0) tn (nI b)) (upd (E 1) tn (nI (es_Le ar ki (es_lk mx n) b))) (upd (E 2) tn (es_Kd ar ki (es_lk mx n) b)) (upd (E 3) tn (nI (es_Lo ar (es_lk mx n) b)))) (tn + 1) (b + (es_Le ar ki (es_lk mx n) b)) fl fk (nI (es_Le ar ki (es_lk mx n) b)) (es_Kd ar ki (es_lk mx n) b) (nI (es_Lo ar (es_lk mx n) b)) 1 (es_fnd_s hE hbm) (lt_s htok (by rw [← hbm]; exact ⟨by omega, by omega⟩)) (by rw [es_B, ← hbm]) (by omega) (Or.inl ⟨rfl, hp2, hp3⟩) (by omega) H locs (hP.sub [4, 5, 6, 7, 0, 1, 2, 3] rfl) (hD.sub [4, 5, 6, 7, 0, 1, 2, 3] (by decide) rfl) hS ls (lv_sub hl [1, 0] rfl)
set_option maxHeartbeats 1000000 in
set_option maxRecDepth 100000 in
/-- X4.scanAll  -/
theorem c_X4_scanAll (l : Launch) (D : va_G) (cI : ClassId) (sz : Nat) (mo : Nat) (ma : Nat) (mk : Nat) (mtx : Nat) (m0 : Nat) (m1 : Nat) (m2 : Nat) (m3 : Nat) (mb : Nat) (ar : Nat → Int32) (ki : Nat → Int32) (mx : Nat → Int32) (M : Nat → Nat → Int32) (n : Nat) (tn : Nat) (fl : Int32) (fk : Int32) (ot : Int32) (of_ : Int32) (os_ : Int32) (rd : Nat) (sc : Nat) (ed : Nat) (ts : Int32) (tkd : Int32) (tl : Int32) (hta : es_ta ar) (htk : es_tk2 ki) (htt : es_tt mx n) (hn : n ≤ 400) : Met l yX4_scanAll (Cond.code yX4_scanAll cX4_scanAll 2 none :: es_T) { frames := 1, cells := 0, slots := 0, locals := 23 } (va_Pc [.ref mo] (es_W D cI sz [(mo, .inr (4, [.ref ma, .ref mk, .ref mtx, .int (nI n), .int (nI tn), .ref m0, .ref m1, .ref m2, .ref m3, .int fl, .int fk, .int ot, .ref mb, .int of_, .int os_, .int (nI rd), .int (nI sc), .int (nI ed), .int ts, .int tkd, .int tl])), (ma, .inl (cI, 200, .inl ar)), (mk, .inl (cI, 20, .inl ki)), (mtx, .inl (cI, 400, .inl mx)), (m0, .inl (cI, 400, .inl (M 0))), (m1, .inl (cI, 400, .inl (M 1))), (m2, .inl (cI, 400, .inl (M 2))), (m3, .inl (cI, 400, .inl (M 3)))])) (va_Qv (fun u => ∃ c, es_mdl ar ki (es_lk mx n) n c u.1 u.2.1 u.2.2.1 u.2.2.2.1) (fun (u : (Nat → Nat → Int32) × Nat × Int32 × Int32 × Int32 × Int32 × Int32) zt => va_P D vwCl [(mo, .inr (4, [.ref ma, .ref mk, .ref mtx, .int (nI n), .int (nI u.2.1), .ref m0, .ref m1, .ref m2, .ref m3, .int u.2.2.1, .int u.2.2.2.1, .int ot, .ref mb, .int of_, .int os_, .int (nI rd), .int (nI sc), .int (nI ed), .int u.2.2.2.2.1, .int u.2.2.2.2.2.1, .int u.2.2.2.2.2.2])), (ma, .inl (cI, 200, .inl ar)), (mk, .inl (cI, 20, .inl ki)), (mtx, .inl (cI, 400, .inl mx)), (m0, .inl (cI, 400, .inl (u.1 0))), (m1, .inl (cI, 400, .inl (u.1 1))), (m2, .inl (cI, 400, .inl (u.1 2))), (m3, .inl (cI, 400, .inl (u.1 3)))] zt.heap ∧ va_D (va_A [(mo, .inr (4, [.ref ma, .ref mk, .ref mtx, .int (nI n), .int (nI tn), .ref m0, .ref m1, .ref m2, .ref m3, .int fl, .int fk, .int ot, .ref mb, .int of_, .int os_, .int (nI rd), .int (nI sc), .int (nI ed), .int ts, .int tkd, .int tl])), (ma, .inl (cI, 200, .inl ar)), (mk, .inl (cI, 20, .inl ki)), (mtx, .inl (cI, 400, .inl mx)), (m0, .inl (cI, 400, .inl (M 0))), (m1, .inl (cI, 400, .inl (M 1))), (m2, .inl (cI, 400, .inl (M 2))), (m3, .inl (cI, 400, .inl (M 3)))] sz) [(mo, .inr (4, [.ref ma, .ref mk, .ref mtx, .int (nI n), .int (nI u.2.1), .ref m0, .ref m1, .ref m2, .ref m3, .int u.2.2.1, .int u.2.2.2.1, .int ot, .ref mb, .int of_, .int os_, .int (nI rd), .int (nI sc), .int (nI ed), .int u.2.2.2.2.1, .int u.2.2.2.2.2.1, .int u.2.2.2.2.2.2])), (ma, .inl (cI, 200, .inl ar)), (mk, .inl (cI, 20, .inl ki)), (mtx, .inl (cI, 400, .inl mx)), (m0, .inl (cI, 400, .inl (u.1 0))), (m1, .inl (cI, 400, .inl (u.1 1))), (m2, .inl (cI, 400, .inl (u.1 2))), (m3, .inl (cI, 400, .inl (u.1 3)))]) (va_A [(mo, .inr (4, [.ref ma, .ref mk, .ref mtx, .int (nI n), .int (nI tn), .ref m0, .ref m1, .ref m2, .ref m3, .int fl, .int fk, .int ot, .ref mb, .int of_, .int os_, .int (nI rd), .int (nI sc), .int (nI ed), .int ts, .int tkd, .int tl])), (ma, .inl (cI, 200, .inl ar)), (mk, .inl (cI, 20, .inl ki)), (mtx, .inl (cI, 400, .inl mx)), (m0, .inl (cI, 400, .inl (M 0))), (m1, .inl (cI, 400, .inl (M 1))), (m2, .inl (cI, 400, .inl (M 2))), (m3, .inl (cI, 400, .inl (M 3)))] sz)) 0 0 (va_A [(mo, .inr (4, [.ref ma, .ref mk, .ref mtx, .int (nI n), .int (nI tn), .ref m0, .ref m1, .ref m2, .ref m3, .int fl, .int fk, .int ot, .ref mb, .int of_, .int os_, .int (nI rd), .int (nI sc), .int (nI ed), .int ts, .int tkd, .int tl])), (ma, .inl (cI, 200, .inl ar)), (mk, .inl (cI, 20, .inl ki)), (mtx, .inl (cI, 400, .inl mx)), (m0, .inl (cI, 400, .inl (M 0))), (m1, .inl (cI, 400, .inl (M 1))), (m2, .inl (cI, 400, .inl (M 2))), (m3, .inl (cI, 400, .inl (M 3)))] sz) := by
  refine Met.ofW (cc := cX4_scanAll) (maxL := 2) (ret := none) (by decide) rfl ?_
  intro p e s m args below meth c s₁ B hml hv
  obtain ⟨rfl, hsz, hP, hK, hD0⟩ := hv
  have hx := B.exec
  have hb := B.bytes
  have hr := B.returns
  have hts := atoms_spec (ws := (Cond.code yX4_scanAll cX4_scanAll 2 none :: es_T)) B.pre
  have hw : ∀ w ∈ es_T, w.before _ s = true := fun w h => hts w (List.mem_cons_of_mem _ h)
  have hown : s.vm.findClass RX4 = some m.cls := findClass_of_methodNamed B.named
  have hlocks := B.notSynchronized
  have hRm : 1 ≤ (headSpec (Cond.code yX4_scanAll cX4_scanAll 2 none :: es_T) { frames := 1, cells := 0, slots := 0, locals := 23 }).room.frames ∧ 23 ≤ (headSpec (Cond.code yX4_scanAll cX4_scanAll 2 none :: es_T) { frames := 1, cells := 0, slots := 0, locals := 23 }).room.locals := ⟨Nat.le_refl _, Nat.le_refl _⟩
  have hRc : 0 ≤ (headSpec (Cond.code yX4_scanAll cX4_scanAll 2 none :: es_T) { frames := 1, cells := 0, slots := 0, locals := 23 }).room.cells ∧ 0 ≤ (headSpec (Cond.code yX4_scanAll cX4_scanAll 2 none :: es_T) { frames := 1, cells := 0, slots := 0, locals := 23 }).room.slots := ⟨Nat.le_refl _, Nat.le_refl _⟩
  subst hsz
  have hD := hD0.self (sz := s.heap.size)
  generalize hAe : va_A [(mo, .inr (4, [.ref ma, .ref mk, .ref mtx, .int (nI n), .int (nI tn), .ref m0, .ref m1, .ref m2, .ref m3, .int fl, .int fk, .int ot, .ref mb, .int of_, .int os_, .int (nI rd), .int (nI sc), .int (nI ed), .int ts, .int tkd, .int tl])), (ma, .inl (cI, 200, .inl ar)), (mk, .inl (cI, 20, .inl ki)), (mtx, .inl (cI, 400, .inl mx)), (m0, .inl (cI, 400, .inl (M 0))), (m1, .inl (cI, 400, .inl (M 1))), (m2, .inl (cI, 400, .inl (M 2))), (m3, .inl (cI, 400, .inl (M 3)))] s.heap.size = A at hD ⊢
  have hA : ∀ q : Nat, s.heap.size ≤ q → A q := fun q h => by rw [← hAe]; exact Or.inr h
  have hS : va_S A s.heap s.heap [] := va_S.rf
  have hl := lv_entry ([.ref mo]) (n := 2) (Nat.le_of_ble_eq_true rfl)
  rw [lg_entry_eq]
  generalize (lg_sl ([.ref mo]) ++ List.replicate (2 - (lg_sl ([.ref mo])).length) Slot.unset).toArray = ls at hl ⊢
  have hl : lv_has ls 2 [(0, .ref mo)] := hl
  refine lv_aload_n hx hb dX4_scanAll_0 rfl (lv_at hl 0 rfl) ?_
  refine lv_iconst (v := nI 0) hx hb dX4_scanAll_1 (by decide) ?_
  refine va_put (D := D) (ci := 4) (v := .int (nI 0)) (ty := .int) (C := RX4) (T := TX4) (N := 21) hx hb hw iwX4 tyX4 tyX4_ok nmX4 hown hK.1 hP hD hS 0 rfl rfl 4 (by decide) (hw _ xw_268) (fun _ h9 => h9) rfl (by decide +kernel) rfl rfl (Nat.le_of_ble_eq_true rfl) dX4_scanAll_2 (fun H locs hP hD hS => ?_)
  have hP : va_P D vwCl [(mo, .inr (4, [.ref ma, .ref mk, .ref mtx, .int (nI n), .int (nI 0), .ref m0, .ref m1, .ref m2, .ref m3, .int fl, .int fk, .int ot, .ref mb, .int of_, .int os_, .int (nI rd), .int (nI sc), .int (nI ed), .int ts, .int tkd, .int tl])), (ma, .inl (cI, 200, .inl ar)), (mk, .inl (cI, 20, .inl ki)), (mtx, .inl (cI, 400, .inl mx)), (m0, .inl (cI, 400, .inl (M 0))), (m1, .inl (cI, 400, .inl (M 1))), (m2, .inl (cI, 400, .inl (M 2))), (m3, .inl (cI, 400, .inl (M 3)))] H := hP
  have hD : va_D A [(mo, .inr (4, [.ref ma, .ref mk, .ref mtx, .int (nI n), .int (nI 0), .ref m0, .ref m1, .ref m2, .ref m3, .int fl, .int fk, .int ot, .ref mb, .int of_, .int os_, .int (nI rd), .int (nI sc), .int (nI ed), .int ts, .int tkd, .int tl])), (ma, .inl (cI, 200, .inl ar)), (mk, .inl (cI, 20, .inl ki)), (mtx, .inl (cI, 400, .inl mx)), (m0, .inl (cI, 400, .inl (M 0))), (m1, .inl (cI, 400, .inl (M 1))), (m2, .inl (cI, 400, .inl (M 2))), (m3, .inl (cI, 400, .inl (M 3)))] := hD
  refine lv_aload_n hx hb dX4_scanAll_5 rfl (lv_at hl 0 rfl) ?_
  refine lv_iconst (v := (-1)) hx hb dX4_scanAll_6 (by decide) ?_
  refine va_put (D := D) (ci := 4) (v := .int (-1)) (ty := .int) (C := RX4) (T := TX4) (N := 21) hx hb hw iwX4 tyX4 tyX4_ok nmX4 hown hK.1 hP hD hS 0 rfl rfl 9 (by decide) (hw _ xw_273) (fun _ h9 => h9) rfl (by decide +kernel) rfl rfl (Nat.le_of_ble_eq_true rfl) dX4_scanAll_7 (fun H locs hP hD hS => ?_)
  have hP : va_P D vwCl [(mo, .inr (4, [.ref ma, .ref mk, .ref mtx, .int (nI n), .int (nI 0), .ref m0, .ref m1, .ref m2, .ref m3, .int (-1), .int fk, .int ot, .ref mb, .int of_, .int os_, .int (nI rd), .int (nI sc), .int (nI ed), .int ts, .int tkd, .int tl])), (ma, .inl (cI, 200, .inl ar)), (mk, .inl (cI, 20, .inl ki)), (mtx, .inl (cI, 400, .inl mx)), (m0, .inl (cI, 400, .inl (M 0))), (m1, .inl (cI, 400, .inl (M 1))), (m2, .inl (cI, 400, .inl (M 2))), (m3, .inl (cI, 400, .inl (M 3)))] H := hP
  have hD : va_D A [(mo, .inr (4, [.ref ma, .ref mk, .ref mtx, .int (nI n), .int (nI 0), .ref m0, .ref m1, .ref m2, .ref m3, .int (-1), .int fk, .int ot, .ref mb, .int of_, .int os_, .int (nI rd), .int (nI sc), .int (nI ed), .int ts, .int tkd, .int tl])), (ma, .inl (cI, 200, .inl ar)), (mk, .inl (cI, 20, .inl ki)), (mtx, .inl (cI, 400, .inl mx)), (m0, .inl (cI, 400, .inl (M 0))), (m1, .inl (cI, 400, .inl (M 1))), (m2, .inl (cI, 400, .inl (M 2))), (m3, .inl (cI, 400, .inl (M 3)))] := hD
  refine lv_aload_n hx hb dX4_scanAll_10 rfl (lv_at hl 0 rfl) ?_
  refine lv_iconst (v := nI 0) hx hb dX4_scanAll_11 (by decide) ?_
  refine va_put (D := D) (ci := 4) (v := .int (nI 0)) (ty := .int) (C := RX4) (T := TX4) (N := 21) hx hb hw iwX4 tyX4 tyX4_ok nmX4 hown hK.1 hP hD hS 0 rfl rfl 10 (by decide) (hw _ xw_274) (fun _ h9 => h9) rfl (by decide +kernel) rfl rfl (Nat.le_of_ble_eq_true rfl) dX4_scanAll_12 (fun H locs hP hD hS => ?_)
  have hP : va_P D vwCl [(mo, .inr (4, [.ref ma, .ref mk, .ref mtx, .int (nI n), .int (nI 0), .ref m0, .ref m1, .ref m2, .ref m3, .int (-1), .int (nI 0), .int ot, .ref mb, .int of_, .int os_, .int (nI rd), .int (nI sc), .int (nI ed), .int ts, .int tkd, .int tl])), (ma, .inl (cI, 200, .inl ar)), (mk, .inl (cI, 20, .inl ki)), (mtx, .inl (cI, 400, .inl mx)), (m0, .inl (cI, 400, .inl (M 0))), (m1, .inl (cI, 400, .inl (M 1))), (m2, .inl (cI, 400, .inl (M 2))), (m3, .inl (cI, 400, .inl (M 3)))] H := hP
  have hD : va_D A [(mo, .inr (4, [.ref ma, .ref mk, .ref mtx, .int (nI n), .int (nI 0), .ref m0, .ref m1, .ref m2, .ref m3, .int (-1), .int (nI 0), .int ot, .ref mb, .int of_, .int os_, .int (nI rd), .int (nI sc), .int (nI ed), .int ts, .int tkd, .int tl])), (ma, .inl (cI, 200, .inl ar)), (mk, .inl (cI, 20, .inl ki)), (mtx, .inl (cI, 400, .inl mx)), (m0, .inl (cI, 400, .inl (M 0))), (m1, .inl (cI, 400, .inl (M 1))), (m2, .inl (cI, 400, .inl (M 2))), (m3, .inl (cI, 400, .inl (M 3)))] := hD
  refine lv_iconst (v := nI 0) hx hb dX4_scanAll_15 (by decide) ?_
  refine lv_istore_n (lv' := [(1, .int (nI 0)), (0, .ref mo)]) hx hb dX4_scanAll_16 rfl hl (by decide) rfl (fun ls hl => ?_)
  refine lp_scanAll D cI mo ma mk mtx m0 m1 m2 m3 mb ar ki mx n ot of_ os_ rd sc ed hx hb hml hown hw hK ⟨Nat.le_trans (Nat.le_of_ble_eq_true rfl) hRm.1, Nat.le_trans (Nat.le_of_ble_eq_true rfl) hRm.2⟩ hA (by first | assumption | omega) (by first | assumption | omega) (by first | assumption | omega) (by first | assumption | omega) (fun E tn fl fk ts tkd tl hmd H locs hP hD hS ls hl => ?_) ((n - 0 + 1) + 1) M 0 0 (-1) (nI 0) ts tkd tl 1 (fun i h => absurd h (Nat.not_lt_zero _)) (fun i h => absurd h (Nat.not_lt_zero _)) rfl (Nat.zero_le _) (Or.inl ⟨rfl, rfl, rfl⟩) (Nat.lt_succ_self _) H locs (hP.sub [0, 1, 2, 3, 4, 5, 6, 7] rfl) (hD.sub [0, 1, 2, 3, 4, 5, 6, 7] (by decide) rfl) hS ls (lv_sub hl [1, 0] rfl)
  exact W.vret hx hb hr (fun zt ht hW => ⟨⟨(E, tn, fl, fk, ts, tkd, tl), rfl, hmd, ⟨by rw [ht]; exact hP.sub [0, 1, 2, 3, 4, 5, 6, 7] rfl, hD.sub [0, 1, 2, 3, 4, 5, 6, 7] (by decide) rfl⟩⟩, hS.F ht⟩) hS.2.2 dX4_scanAll_125
set_option maxHeartbeats 1000000 in
set_option maxRecDepth 100000 in
theorem lp_began {p : Program} {l : Launch} {e : Env} {R : Room} {s : State} {m : MethodId} {args : Array Value} {below : List Frame} {meth : Method} {c : Code} {Q : State → Prop} {H : Heap} {locs : List Loc} (D : va_G) (cI : ClassId) (mo : Nat) (ma : Nat) (mk : Nat) (mtx : Nat) (m0 : Nat) (m1 : Nat) (m2 : Nat) (m3 : Nat) (mb : Nat) (ob : Nat → Int32) (n : Nat) (tn : Nat) (fl : Int32) (fk : Int32) (of_ : Int32) (os_ : Int32) (rd : Nat) (sc : Nat) (ed : Nat) (ts : Int32) (tkd : Int32) (tl : Int32) (otn : Nat) (x : Int32) (hx : p.tables.exec = Jvm.exec) (hb : c.code = cX4_began) (hml : c.maxLocals = 4) (hown : s.vm.findClass RX4 = some m.cls) (hw : ∀ w ∈ es_T, w.before args s = true) (hK : es_K D cI s) (hRm : 0 ≤ R.frames ∧ 0 ≤ R.locals) (hP : va_P D vwCl [(mo, .inr (4, [.ref ma, .ref mk, .ref mtx, .int (nI n), .int (nI tn), .ref m0, .ref m1, .ref m2, .ref m3, .int fl, .int fk, .int (nI otn), .ref mb, .int of_, .int os_, .int (nI rd), .int (nI sc), .int (nI ed), .int ts, .int tkd, .int tl])), (mb, .inl (cI, 400, .inl ob))] H) (hot : otn ≤ 400) (hex : ∀ (bg : Nat), ((bg = 1 ∧ (x = of_ ∨ x = os_ ∨ ∃ w : Nat, w < otn ∧ ob w = x)) ∨ (bg = 0 ∧ ¬ (x = of_ ∨ x = os_ ∨ ∃ w : Nat, w < otn ∧ ob w = x))) → ∀ (ls : Array Slot), lv_has ls 4 [(2, .int (nI bg))] →  W p l e R s m args below meth c H locs 0 0 Q (F0 m 58 ls [])) : ∀ (N : Nat) (i : Nat) (bg : Nat), (i ≤ otn) → ((bg = 1 ∧ (x = of_ ∨ x = os_ ∨ ∃ w : Nat, w < i ∧ ob w = x)) ∨ (bg = 0 ∧ ¬ (x = of_ ∨ x = os_ ∨ ∃ w : Nat, w < i ∧ ob w = x))) → (otn - i) < N → ∀ (ls : Array Slot), lv_has ls 4 [(0, .ref mo), (1, .int x), (2, .int (nI bg)), (3, .int (nI i))] →  W p l e R s m args below meth c H locs 0 0 Q (F0 m 24 ls []) := by
  intro N
  induction N with
  | zero =>
    intro i bg hi hg hN
    exact absurd hN (Nat.not_lt_zero _)
  | succ N ih =>
    intro i bg hi hg hN ls hl
    refine lv_iload_n hx hb dX4_began_24 rfl (lv_at hl 3 rfl) ?_
    refine lv_aload_n hx hb dX4_began_25 rfl (lv_at hl 0 rfl) ?_
    refine va_get (D := D) (ci := 4) (v := .int (nI otn)) (C := RX4) (T := TX4) (N := 21) hx hb hw iwX4 hown hK.1 hP 0 rfl rfl 11 (by decide) (hw _ xw_264) (fun _ h9 => h9) rfl dX4_began_26 ?_
    refine lv_icmp_ge (tgt := 58) hx hb dX4_began_29 (by decide) (fun c_29 => ?_) (fun c_29 => ?_)
    ·
      have c_29 := (nI_leI (by omega) (by omega)).mp c_29
      exact hex bg (by rw [show otn = i by omega]; exact hg)  ls (lv_sub hl [2] rfl)
    ·
      have c_29 := (mt (nI_leI (by omega) (by omega)).mpr c_29)
      refine lv_iload_n hx hb dX4_began_32 rfl (lv_at hl 2 rfl) ?_
      refine lv_if_ne (tgt := 46) hx hb dX4_began_33 (by decide) (fun c_33 => ?_) (fun c_33 => ?_)
      ·
        have c_33 := (mt (nI_eq (a := bg) (b := 0) (by omega) (by omega)).mpr c_33)
        refine lv_iconst (v := nI 1) hx hb dX4_began_46 (by decide) ?_
        refine lv_goto (tgt := 51) hx hb dX4_began_47 (by decide) ?_
        refine lv_istore_n (lv' := [(2, .int (nI 1)), (0, .ref mo), (1, .int x), (3, .int (nI i))]) hx hb dX4_began_51 rfl hl (by decide) rfl (fun ls hl => ?_)
        refine lv_iinc (v := nI (i + 1)) (lv' := [(3, .int (nI (i + 1))), (2, .int (nI 1)), (0, .ref mo), (1, .int x)]) hx hb dX4_began_52 hl (k := 3) rfl (nI_1 _) (by decide) rfl (fun ls hl => ?_)
        refine lv_goto (tgt := 24) hx hb dX4_began_55 (by decide) ?_
        exact ih (i + 1) 1 (by first | assumption | omega) (by first | exact es_bgA hg c_33 | exact es_bgB c_43 | exact es_bgC hg c_33 c_43) (by omega) ls (lv_sub hl [2, 3, 1, 0] rfl)
      ·
        have c_33 := (nI_eq (a := bg) (b := 0) (by omega) (by omega)).mp c_33
        refine lv_aload_n hx hb dX4_began_36 rfl (lv_at hl 0 rfl) ?_
        refine va_get (D := D) (ci := 4) (v := .ref mb) (C := RX4) (T := TX4) (N := 21) hx hb hw iwX4 hown hK.1 hP 0 rfl rfl 12 (by decide) (hw _ xw_265) (fun _ h9 => h9) rfl dX4_began_37 ?_
        refine lv_iload_n hx hb dX4_began_40 rfl (lv_at hl 3 rfl) ?_
        refine es_iald hx hb hK.1 hP 1 0 rfl rfl (by omega) (Nat.le_of_ble_eq_true rfl) dX4_began_41 ?_
        refine lv_iload_n hx hb dX4_began_42 rfl (lv_at hl 1 rfl) ?_
        refine lv_icmp_ne (tgt := 50) hx hb dX4_began_43 (by decide) (fun c_43 => ?_) (fun c_43 => ?_)
        ·
          refine lv_iconst (v := nI 0) hx hb dX4_began_50 (by decide) ?_
          refine lv_istore_n (lv' := [(2, .int (nI 0)), (0, .ref mo), (1, .int x), (3, .int (nI i))]) hx hb dX4_began_51 rfl hl (by decide) rfl (fun ls hl => ?_)
          refine lv_iinc (v := nI (i + 1)) (lv' := [(3, .int (nI (i + 1))), (2, .int (nI 0)), (0, .ref mo), (1, .int x)]) hx hb dX4_began_52 hl (k := 3) rfl (nI_1 _) (by decide) rfl (fun ls hl => ?_)
          refine lv_goto (tgt := 24) hx hb dX4_began_55 (by decide) ?_
          exact ih (i + 1) 0 (by first | assumption | omega) (by first | exact es_bgA hg c_33 | exact es_bgB c_43 | exact es_bgC hg c_33 c_43) (by omega) ls (lv_sub hl [2, 3, 1, 0] rfl)
        ·
          refine lv_iconst (v := nI 1) hx hb dX4_began_46 (by decide) ?_
          refine lv_goto (tgt := 51) hx hb dX4_began_47 (by decide) ?_
          refine lv_istore_n (lv' := [(2, .int (nI 1)), (0, .ref mo), (1, .int x), (3, .int (nI i))]) hx hb dX4_began_51 rfl hl (by decide) rfl (fun ls hl => ?_)
          refine lv_iinc (v := nI (i + 1)) (lv' := [(3, .int (nI (i + 1))), (2, .int (nI 1)), (0, .ref mo), (1, .int x)]) hx hb dX4_began_52 hl (k := 3) rfl (nI_1 _) (by decide) rfl (fun ls hl => ?_)
          refine lv_goto (tgt := 24) hx hb dX4_began_55 (by decide) ?_
          exact ih (i + 1) 1 (by first | assumption | omega) (by first | exact es_bgA hg c_33 | exact es_bgB c_43 | exact es_bgC hg c_33 c_43) (by omega) ls (lv_sub hl [2, 3, 1, 0] rfl)
set_option maxHeartbeats 1000000 in
set_option maxRecDepth 100000 in
/-- X4.began  -/
theorem c_X4_began (l : Launch) (D : va_G) (cI : ClassId) (mo : Nat) (ma : Nat) (mk : Nat) (mtx : Nat) (m0 : Nat) (m1 : Nat) (m2 : Nat) (m3 : Nat) (mb : Nat) (ob : Nat → Int32) (n : Nat) (tn : Nat) (fl : Int32) (fk : Int32) (of_ : Int32) (os_ : Int32) (rd : Nat) (sc : Nat) (ed : Nat) (ts : Int32) (tkd : Int32) (tl : Int32) (otn : Nat) (x : Int32) (hot : otn ≤ 400) : Met l yX4_began (Cond.code yX4_began cX4_began 4 (some .boolean) :: es_T) { frames := 0, cells := 0, slots := 0, locals := 0 } (va_Pc [.ref mo, .int x] (es_R D cI [(mo, .inr (4, [.ref ma, .ref mk, .ref mtx, .int (nI n), .int (nI tn), .ref m0, .ref m1, .ref m2, .ref m3, .int fl, .int fk, .int (nI otn), .ref mb, .int of_, .int os_, .int (nI rd), .int (nI sc), .int (nI ed), .int ts, .int tkd, .int tl])), (mb, .inl (cI, 400, .inl ob))])) (vp_Si (fun q => (q = nI 1 ∧ (x = of_ ∨ x = os_ ∨ ∃ w : Nat, w < otn ∧ ob w = x)) ∨ (q = nI 0 ∧ ¬ (x = of_ ∨ x = os_ ∨ ∃ w : Nat, w < otn ∧ ob w = x)))) 0 0 (fun _ => False) := by
  refine Met.ofW (cc := cX4_began) (maxL := 4) (ret := (some .boolean)) (by decide) rfl ?_
  intro p e s m args below meth c s₁ B hml hv
  obtain ⟨rfl, hP, hK⟩ := hv
  have hx := B.exec
  have hb := B.bytes
  have hr := B.returns
  have hts := atoms_spec (ws := (Cond.code yX4_began cX4_began 4 (some .boolean) :: es_T)) B.pre
  have hw : ∀ w ∈ es_T, w.before _ s = true := fun w h => hts w (List.mem_cons_of_mem _ h)
  have hown : s.vm.findClass RX4 = some m.cls := findClass_of_methodNamed B.named
  have hlocks := B.notSynchronized
  have hRm : 0 ≤ (headSpec (Cond.code yX4_began cX4_began 4 (some .boolean) :: es_T) { frames := 0, cells := 0, slots := 0, locals := 0 }).room.frames ∧ 0 ≤ (headSpec (Cond.code yX4_began cX4_began 4 (some .boolean) :: es_T) { frames := 0, cells := 0, slots := 0, locals := 0 }).room.locals := ⟨Nat.le_refl _, Nat.le_refl _⟩
  have hRc : 0 ≤ (headSpec (Cond.code yX4_began cX4_began 4 (some .boolean) :: es_T) { frames := 0, cells := 0, slots := 0, locals := 0 }).room.cells ∧ 0 ≤ (headSpec (Cond.code yX4_began cX4_began 4 (some .boolean) :: es_T) { frames := 0, cells := 0, slots := 0, locals := 0 }).room.slots := ⟨Nat.le_refl _, Nat.le_refl _⟩
  have hl := lv_entry ([.ref mo, .int x]) (n := 4) (Nat.le_of_ble_eq_true rfl)
  rw [lg_entry_eq]
  generalize (lg_sl ([.ref mo, .int x]) ++ List.replicate (4 - (lg_sl ([.ref mo, .int x])).length) Slot.unset).toArray = ls at hl ⊢
  have hl : lv_has ls 4 [(0, .ref mo), (1, .int x)] := hl
  refine lv_iload_n hx hb dX4_began_0 rfl (lv_at hl 1 rfl) ?_
  refine lv_aload_n hx hb dX4_began_1 rfl (lv_at hl 0 rfl) ?_
  refine va_get (D := D) (ci := 4) (v := .int of_) (C := RX4) (T := TX4) (N := 21) hx hb hw iwX4 hown hK.1 hP 0 rfl rfl 13 (by decide) (hw _ xw_262) (fun _ h9 => h9) rfl dX4_began_2 ?_
  refine lv_icmp_eq (tgt := 16) hx hb dX4_began_5 (by decide) (fun c_5 => ?_) (fun c_5 => ?_)
  ·
    refine lv_iconst (v := nI 1) hx hb dX4_began_16 (by decide) ?_
    refine lv_goto (tgt := 21) hx hb dX4_began_17 (by decide) ?_
    refine lv_istore_n (lv' := [(2, .int (nI 1)), (0, .ref mo), (1, .int x)]) hx hb dX4_began_21 rfl hl (by decide) rfl (fun ls hl => ?_)
    refine lv_iconst (v := nI 0) hx hb dX4_began_22 (by decide) ?_
    refine lv_istore_n (lv' := [(3, .int (nI 0)), (2, .int (nI 1)), (0, .ref mo), (1, .int x)]) hx hb dX4_began_23 rfl hl (by decide) rfl (fun ls hl => ?_)
    refine lp_began D cI mo ma mk mtx m0 m1 m2 m3 mb ob n tn fl fk of_ os_ rd sc ed ts tkd tl otn x hx hb hml hown hw hK ⟨Nat.le_trans (Nat.le_of_ble_eq_true rfl) hRm.1, Nat.le_trans (Nat.le_of_ble_eq_true rfl) hRm.2⟩ hP (by first | assumption | omega) (fun bg hg ls hl => ?_) ((otn - 0) + 1) 0 1 (Nat.zero_le _) (by first | exact Or.inl ⟨rfl, Or.inl c_5⟩ | exact Or.inl ⟨rfl, Or.inr (Or.inl c_13)⟩ | exact Or.inr ⟨rfl, fun h => h.elim c_5 (fun h => h.elim c_13 (fun ⟨w, hw, _⟩ => absurd hw (Nat.not_lt_zero _)))⟩) (Nat.lt_succ_self _) ls (lv_sub hl [2, 3, 1, 0] rfl)
    refine lv_iload_n hx hb dX4_began_58 rfl (lv_at hl 0 rfl) ?_
    exact W.zret (v := nI bg) hx hb hr (es_nar1 (by omega)) (fun zt ht hW => ⟨_, rfl, (by rcases hg with ⟨rfl, h⟩ | ⟨rfl, h⟩; exact Or.inl ⟨rfl, h⟩; exact Or.inr ⟨rfl, h⟩), ht⟩) (fun _ h => by cases h) dX4_began_59
  ·
    refine lv_iload_n hx hb dX4_began_8 rfl (lv_at hl 1 rfl) ?_
    refine lv_aload_n hx hb dX4_began_9 rfl (lv_at hl 0 rfl) ?_
    refine va_get (D := D) (ci := 4) (v := .int os_) (C := RX4) (T := TX4) (N := 21) hx hb hw iwX4 hown hK.1 hP 0 rfl rfl 14 (by decide) (hw _ xw_263) (fun _ h9 => h9) rfl dX4_began_10 ?_
    refine lv_icmp_ne (tgt := 20) hx hb dX4_began_13 (by decide) (fun c_13 => ?_) (fun c_13 => ?_)
    ·
      refine lv_iconst (v := nI 0) hx hb dX4_began_20 (by decide) ?_
      refine lv_istore_n (lv' := [(2, .int (nI 0)), (0, .ref mo), (1, .int x)]) hx hb dX4_began_21 rfl hl (by decide) rfl (fun ls hl => ?_)
      refine lv_iconst (v := nI 0) hx hb dX4_began_22 (by decide) ?_
      refine lv_istore_n (lv' := [(3, .int (nI 0)), (2, .int (nI 0)), (0, .ref mo), (1, .int x)]) hx hb dX4_began_23 rfl hl (by decide) rfl (fun ls hl => ?_)
      refine lp_began D cI mo ma mk mtx m0 m1 m2 m3 mb ob n tn fl fk of_ os_ rd sc ed ts tkd tl otn x hx hb hml hown hw hK ⟨Nat.le_trans (Nat.le_of_ble_eq_true rfl) hRm.1, Nat.le_trans (Nat.le_of_ble_eq_true rfl) hRm.2⟩ hP (by first | assumption | omega) (fun bg hg ls hl => ?_) ((otn - 0) + 1) 0 0 (Nat.zero_le _) (by first | exact Or.inl ⟨rfl, Or.inl c_5⟩ | exact Or.inl ⟨rfl, Or.inr (Or.inl c_13)⟩ | exact Or.inr ⟨rfl, fun h => h.elim c_5 (fun h => h.elim c_13 (fun ⟨w, hw, _⟩ => absurd hw (Nat.not_lt_zero _)))⟩) (Nat.lt_succ_self _) ls (lv_sub hl [2, 3, 1, 0] rfl)
      refine lv_iload_n hx hb dX4_began_58 rfl (lv_at hl 0 rfl) ?_
      exact W.zret (v := nI bg) hx hb hr (es_nar1 (by omega)) (fun zt ht hW => ⟨_, rfl, (by rcases hg with ⟨rfl, h⟩ | ⟨rfl, h⟩; exact Or.inl ⟨rfl, h⟩; exact Or.inr ⟨rfl, h⟩), ht⟩) (fun _ h => by cases h) dX4_began_59
    ·
      refine lv_iconst (v := nI 1) hx hb dX4_began_16 (by decide) ?_
      refine lv_goto (tgt := 21) hx hb dX4_began_17 (by decide) ?_
      refine lv_istore_n (lv' := [(2, .int (nI 1)), (0, .ref mo), (1, .int x)]) hx hb dX4_began_21 rfl hl (by decide) rfl (fun ls hl => ?_)
      refine lv_iconst (v := nI 0) hx hb dX4_began_22 (by decide) ?_
      refine lv_istore_n (lv' := [(3, .int (nI 0)), (2, .int (nI 1)), (0, .ref mo), (1, .int x)]) hx hb dX4_began_23 rfl hl (by decide) rfl (fun ls hl => ?_)
      refine lp_began D cI mo ma mk mtx m0 m1 m2 m3 mb ob n tn fl fk of_ os_ rd sc ed ts tkd tl otn x hx hb hml hown hw hK ⟨Nat.le_trans (Nat.le_of_ble_eq_true rfl) hRm.1, Nat.le_trans (Nat.le_of_ble_eq_true rfl) hRm.2⟩ hP (by first | assumption | omega) (fun bg hg ls hl => ?_) ((otn - 0) + 1) 0 1 (Nat.zero_le _) (by first | exact Or.inl ⟨rfl, Or.inl c_5⟩ | exact Or.inl ⟨rfl, Or.inr (Or.inl c_13)⟩ | exact Or.inr ⟨rfl, fun h => h.elim c_5 (fun h => h.elim c_13 (fun ⟨w, hw, _⟩ => absurd hw (Nat.not_lt_zero _)))⟩) (Nat.lt_succ_self _) ls (lv_sub hl [2, 3, 1, 0] rfl)
      refine lv_iload_n hx hb dX4_began_58 rfl (lv_at hl 0 rfl) ?_
      exact W.zret (v := nI bg) hx hb hr (es_nar1 (by omega)) (fun zt ht hW => ⟨_, rfl, (by rcases hg with ⟨rfl, h⟩ | ⟨rfl, h⟩; exact Or.inl ⟨rfl, h⟩; exact Or.inr ⟨rfl, h⟩), ht⟩) (fun _ h => by cases h) dX4_began_59
