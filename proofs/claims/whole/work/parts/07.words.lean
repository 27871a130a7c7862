/-- an array's contents by another function that agrees -/
theorem es_P_arr {D : va_G} {cl : List vw_C} {A : Nat → Prop} {ws : va_W} {H : Heap} {q : Nat} {cA : ClassId} {n : Nat} {f : Nat → Int32} (hP : va_P D cl ws H) (hD : va_D A ws) (q0 : Nat) (ha : ws[q0]? = some (q, .inl (cA, n, .inl f))) (g : Nat → Int32) (hfg : ∀ j, j < n → f j = g j) : va_P D cl (ws.set q0 (q, .inl (cA, n, .inl g))) H ∧ va_D A (ws.set q0 (q, .inl (cA, n, .inl g))) := by
  refine ⟨hP.set hD ha ?_ (fun _ _ => rfl), hD.set ha⟩
  have h1 : H[q]? = some (vp_cell cA (n, .inl f)) := hP q0 _ ha
  show H[q]? = some (vp_cell cA (n, .inl g))
  rw [h1]
  congr 1
  show arrV cA n (fun j => .int (f j)) = arrV cA n (fun j => .int (g j))
  unfold arrV
  congr 2
  funext j
  exact congrArg Value.int (hfg j.val j.isLt)
theorem es_n0 : (0 : Int32).toInt = 0 := rfl
theorem es_n1 : (1 : Int32).toInt = 1 := rfl
theorem es_nm : (-1 : Int32).toInt = -1 := rfl
theorem es_k0 : (nI 0).toInt = 0 := rfl
theorem es_k1 : (nI 1).toInt = 1 := rfl
theorem es_k9 : (nI 9).toInt = 9 := rfl
theorem es_k10 : (nI 10).toInt = 10 := rfl
theorem es_k15 : (nI 15).toInt = 15 := rfl
theorem es_k16 : (nI 16).toInt = 16 := rfl
theorem es_k20 : (nI 20).toInt = 20 := rfl
theorem es_k99 : (nI 99).toInt = 99 := rfl
theorem es_k100 : (nI 100).toInt = 100 := rfl
theorem es_k400 : (nI 400).toInt = 400 := rfl
theorem es_k401 : (nI 401).toInt = 401 := rfl
theorem es_yes {q n : Nat} (h : q < n) (hn : n < 2 ^ 31) : (if 0 ≤ nI q ∧ nI q < nI n then (1 : Int32) else 0) = nI 1 := by
  rw [if_pos ⟨nI_pos' (by omega), nI_lt h hn⟩]; rfl
theorem es_nom {n : Nat} : (if 0 ≤ (-1 : Int32) ∧ (-1 : Int32) < nI n then (1 : Int32) else 0) = nI 0 := by
  rw [if_neg (fun h => absurd h.1 (by decide))]; rfl
/-- a number that is in range is a Nat -/
theorem es_nat {x : Int32} {n : Nat} (h0 : 0 ≤ x) (h1 : x < nI n) (hn : n < 2 ^ 31) : ∃ j : Nat, j < n ∧ x = nI j := by
  rcases pk_ix x hn with h | h | h
  · exact absurd h (Int32.not_lt.mpr h0)
  · exact absurd h (Int32.not_le.mpr h1)
  · exact h
theorem es_narrow {c : Prop} [Decidable c] : narrow .boolean (.int (if c then (1 : Int32) else 0)) = .int (if c then (1 : Int32) else 0) := by
  split <;> rfl
theorem es_nnm {q : Nat} (h : q < 2 ^ 31) : ¬ nI q = -1 := fun e => by
  have h1 : (nI q).toInt = (-1 : Int32).toInt := by rw [e]
  rw [nI_toInt h, es_nm] at h1
  omega
theorem es_ext {g : Nat → Int32} {i : Nat} {v : Int32} (hg : ∀ j, j < i → g j = v) : ∀ j, j < i + 1 → upd g i v j = v := fun j hj => by
  by_cases e : j = i
  · rw [e]; exact pk_us
  · rw [pk_un e]; exact hg j (by omega)
theorem es_if0 {c : Prop} [Decidable c] (h : (if c then (1 : Int32) else 0) = 0) : ¬ c := fun hc => by
  rw [if_pos hc] at h; exact absurd h (by decide)
theorem es_if1 {c : Prop} [Decidable c] (h : ¬ (if c then (1 : Int32) else 0) = 0) : c := by
  by_cases hc : c
  · exact hc
  · rw [if_neg hc] at h; exact absurd rfl h
theorem es_vin {x : Int32} {n N : Nat} (h : 0 ≤ x ∧ x < nI n) (hn : n ≤ N) (hN : N < 2 ^ 31) : vp_in x N := by
  obtain ⟨j, hj, rfl⟩ := es_nat h.1 h.2 (by omega)
  exact vp_in_nI (by omega) hN
/-- how many tokens there are: a last finding without symbols is the failure -/
def es_tk (F : Nat → Nat → Int32) (n : Nat) : Nat := if 0 < n ∧ F 1 (n - 1) = 0 then n - 1 else n
/-- what an edit needs -/
abbrev es_can (n : Nat) (p o c : Int32) : Prop := 0 ≤ c ∧ c ≤ nI 16 ∧ 0 ≤ p ∧ p ≤ nI n ∧ 0 ≤ o ∧ o ≤ nI n - p ∧ nI n - o + c ≤ nI 400
theorem es_sub_toInt {a b : Nat} (ha : a < 2 ^ 30) (hb : b < 2 ^ 30) : (nI a - nI b).toInt = (a : Int) - b := pk_sub_toInt ha hb
theorem es_can_nat {n : Nat} {p o c : Int32} (hn : n ≤ 400) (h : es_can n p o c) : ∃ p' o' c' : Nat, p = nI p' ∧ o = nI o' ∧ c = nI c' ∧ p' + o' ≤ n ∧ c' ≤ 16 ∧ n - o' + c' ≤ 400 := by
  obtain ⟨h1, h2, h3, h4, h5, h6, h7⟩ := h
  obtain ⟨c', hc, rfl⟩ := nI_of2 (n := 16) rfl (Int32.not_lt.mpr h1) h2
  obtain ⟨p', hp, rfl⟩ := nI_of2 (n := n) (nI_toInt (by omega)) (Int32.not_lt.mpr h3) h4
  rw [pk_sub hp] at h6
  obtain ⟨o', ho, rfl⟩ := nI_of2 (n := n - p') (nI_toInt (by omega)) (Int32.not_lt.mpr h5) h6
  rw [pk_sub (show o' ≤ n by omega), nI_add] at h7
  have h8 := (nI_leI (by omega) (by omega)).mp h7
  exact ⟨p', o', c', rfl, rfl, rfl, by omega, hc, h8⟩
theorem es_can_of {n p o c : Nat} (hn : n ≤ 400) (h1 : p + o ≤ n) (h2 : c ≤ 16) (h3 : n - o + c ≤ 400) : es_can n (nI p) (nI o) (nI c) := by
  refine ⟨nI_pos' (by omega), nI_le h2 (by omega), nI_pos' (by omega), nI_le (by omega) (by omega), nI_pos' (by omega), ?_, ?_⟩
  · rw [pk_sub (by omega)]; exact nI_le (by omega) (by omega)
  · rw [pk_sub (by omega), nI_add]; exact nI_le h3 (by omega)
theorem es_mv {n c o : Nat} (h : o ≤ n) : nI n + (nI c - nI o) = nI (n - o + c) := by
  have e : nI n = nI (n - o) + nI o := by rw [nI_add]; congr 1; omega
  rw [e, Int32.add_assoc, Int32.sub_eq_add_neg, Int32.add_comm (nI c), ← Int32.add_assoc (nI o), Int32.add_right_neg, Int32.zero_add, nI_add]
/-- a digit of the packed symbols -/
def es_dg (sy : Int64) (k : Nat) : Nat := sy.toBitVec.toNat / 2 ^ (4 * k) % 16
theorem es_row_ext {E G : Nat → Nat → Int32} {i : Nat} (h : ∀ a, a < 4 → ∀ j, j < i → E a j = G a j) : ∀ a, a < 4 → ∀ j, j < i + 1 → es_row4 (upd (E 0) i (G 0 i)) (upd (E 1) i (G 1 i)) (upd (E 2) i (G 2 i)) (upd (E 3) i (G 3 i)) a j = G a j := by
  intro a ha j hj
  have key : ∀ a, a < 4 → upd (E a) i (G a i) j = G a j := fun a ha => by
    by_cases e : j = i
    · rw [e]; exact pk_us
    · rw [pk_un e]; exact h a ha j (by omega)
  match a, ha with
  | 0, _ => exact key 0 (by omega)
  | 1, _ => exact key 1 (by omega)
  | 2, _ => exact key 2 (by omega)
  | 3, _ => exact key 3 (by omega)
/-- rows taken over behind n others, begins moved by x -/
def es_mvd (F G E : Nat → Nat → Int32) (n k : Nat) (x : Int32) (i : Nat) : Prop := (∀ a, a < 4 → ∀ j, j < n → E a j = F a j) ∧ ∀ j, j < i → E 0 (n + j) = G 0 (k + j) + x ∧ E 1 (n + j) = G 1 (k + j) ∧ E 2 (n + j) = G 2 (k + j) ∧ E 3 (n + j) = G 3 (k + j)
theorem es_mvd_0 {F G : Nat → Nat → Int32} {n k : Nat} {x : Int32} : es_mvd F G F n k x 0 := ⟨fun _ _ _ _ => rfl, fun _ h => absurd h (Nat.not_lt_zero _)⟩
theorem es_mvd_s {F G E : Nat → Nat → Int32} {n k : Nat} {x : Int32} {i : Nat} (h : es_mvd F G E n k x i) : es_mvd F G (es_row4 (upd (E 0) (n + i) (G 0 (k + i) + x)) (upd (E 1) (n + i) (G 1 (k + i))) (upd (E 2) (n + i) (G 2 (k + i))) (upd (E 3) (n + i) (G 3 (k + i)))) n k x (i + 1) := by
  refine ⟨fun a ha j hj => ?_, fun j hj => ?_⟩
  · have e : j ≠ n + i := by omega
    match a, ha with
    | 0, _ => exact (pk_un e).trans (h.1 0 (by omega) j hj)
    | 1, _ => exact (pk_un e).trans (h.1 1 (by omega) j hj)
    | 2, _ => exact (pk_un e).trans (h.1 2 (by omega) j hj)
    | 3, _ => exact (pk_un e).trans (h.1 3 (by omega) j hj)
  · by_cases e : j = i
    · subst e
      exact ⟨pk_us, pk_us, pk_us, pk_us⟩
    · have e2 : n + j ≠ n + i := by omega
      obtain ⟨h1, h2, h3, h4⟩ := h.2 j (by omega)
      exact ⟨(pk_un e2).trans h1, (pk_un e2).trans h2, (pk_un e2).trans h3, (pk_un e2).trans h4⟩
theorem xw_0 : (.classLink RL 7 RX3 : Cond) ∈ es_T := es_in 18 rfl rfl
theorem xw_1 : (.instantiable RX3 7 : Cond) ∈ es_T := es_in 19 rfl rfl
theorem xw_2 : (.initialized RX3 : Cond) ∈ es_T := es_in 10 rfl rfl
theorem xw_3 : (.code yX3_init cX3_init 1 none : Cond) ∈ es_T := es_in 22 rfl rfl
theorem xw_4 : (.methodLink RL 9 yX3_init : Cond) ∈ es_T := es_in 20 rfl rfl
theorem xw_5 : (.instanceMethod yX3_init : Cond) ∈ es_T := es_in 21 rfl rfl
theorem xw_6 : (.classLink RL 10 RX4 : Cond) ∈ es_T := es_in 271 rfl rfl
theorem xw_7 : (.instantiable RX4 21 : Cond) ∈ es_T := es_in 272 rfl rfl
theorem xw_8 : (.initialized RX4 : Cond) ∈ es_T := es_in 15 rfl rfl
theorem xw_9 : (.code yX4_init cX4_init 1 none : Cond) ∈ es_T := es_in 275 rfl rfl
theorem xw_10 : (.methodLink RL 12 yX4_init : Cond) ∈ es_T := es_in 273 rfl rfl
theorem xw_11 : (.instanceMethod yX4_init : Cond) ∈ es_T := es_in 274 rfl rfl
theorem xw_12 : (.code yX3_arrow cX3_arrow 4 (some .boolean) : Cond) ∈ es_T := es_in 107 rfl rfl
theorem xw_13 : (.methodLink RL 13 yX3_arrow : Cond) ∈ es_T := es_in 104 rfl rfl
theorem xw_14 : (.instanceMethod yX3_arrow : Cond) ∈ es_T := es_in 105 rfl rfl
theorem xw_15 : (.selects RX3 yX3_arrow yX3_arrow : Cond) ∈ es_T := es_in 106 rfl rfl
theorem xw_16 : (.code yX4_arrow cX4_arrow 4 (some .boolean) : Cond) ∈ es_T := es_in 348 rfl rfl
theorem xw_17 : (.methodLink RL 17 yX4_arrow : Cond) ∈ es_T := es_in 345 rfl rfl
theorem xw_18 : (.instanceMethod yX4_arrow : Cond) ∈ es_T := es_in 346 rfl rfl
theorem xw_19 : (.selects RX4 yX4_arrow yX4_arrow : Cond) ∈ es_T := es_in 347 rfl rfl
theorem xw_20 : (.code yX3_kind cX3_kind 3 (some .boolean) : Cond) ∈ es_T := es_in 125 rfl rfl
theorem xw_21 : (.methodLink RL 18 yX3_kind : Cond) ∈ es_T := es_in 122 rfl rfl
theorem xw_22 : (.instanceMethod yX3_kind : Cond) ∈ es_T := es_in 123 rfl rfl
theorem xw_23 : (.selects RX3 yX3_kind yX3_kind : Cond) ∈ es_T := es_in 124 rfl rfl
theorem xw_24 : (.code yX4_kind cX4_kind 3 (some .boolean) : Cond) ∈ es_T := es_in 352 rfl rfl
theorem xw_25 : (.methodLink RL 22 yX4_kind : Cond) ∈ es_T := es_in 349 rfl rfl
theorem xw_26 : (.instanceMethod yX4_kind : Cond) ∈ es_T := es_in 350 rfl rfl
theorem xw_27 : (.selects RX4 yX4_kind yX4_kind : Cond) ∈ es_T := es_in 351 rfl rfl
theorem xw_28 : (.constantLong RL 23 (4294967295 : Int64) : Cond) ∈ es_T := es_in 399 rfl rfl
theorem xw_29 : (.code yX3_edit cX3_edit 8 (some .int) : Cond) ∈ es_T := es_in 133 rfl rfl
theorem xw_30 : (.methodLink RL 25 yX3_edit : Cond) ∈ es_T := es_in 130 rfl rfl
theorem xw_31 : (.instanceMethod yX3_edit : Cond) ∈ es_T := es_in 131 rfl rfl
theorem xw_32 : (.selects RX3 yX3_edit yX3_edit : Cond) ∈ es_T := es_in 132 rfl rfl
theorem xw_33 : (.code yX4_edit cX4_edit 9 (some .int) : Cond) ∈ es_T := es_in 356 rfl rfl
theorem xw_34 : (.methodLink RL 29 yX4_edit : Cond) ∈ es_T := es_in 353 rfl rfl
theorem xw_35 : (.instanceMethod yX4_edit : Cond) ∈ es_T := es_in 354 rfl rfl
theorem xw_36 : (.selects RX4 yX4_edit yX4_edit : Cond) ∈ es_T := es_in 355 rfl rfl
theorem xw_37 : (.code yX3_token cX3_token 3 (some .int) : Cond) ∈ es_T := es_in 224 rfl rfl
theorem xw_38 : (.methodLink RL 30 yX3_token : Cond) ∈ es_T := es_in 221 rfl rfl
theorem xw_39 : (.instanceMethod yX3_token : Cond) ∈ es_T := es_in 222 rfl rfl
theorem xw_40 : (.selects RX3 yX3_token yX3_token : Cond) ∈ es_T := es_in 223 rfl rfl
theorem xw_41 : (.code yX4_token cX4_token 3 (some .int) : Cond) ∈ es_T := es_in 382 rfl rfl
theorem xw_42 : (.methodLink RL 34 yX4_token : Cond) ∈ es_T := es_in 379 rfl rfl
theorem xw_43 : (.instanceMethod yX4_token : Cond) ∈ es_T := es_in 380 rfl rfl
theorem xw_44 : (.selects RX4 yX4_token yX4_token : Cond) ∈ es_T := es_in 381 rfl rfl
theorem xw_45 : (.code yX3_tokenAt cX3_tokenAt 2 (some .int) : Cond) ∈ es_T := es_in 245 rfl rfl
theorem xw_46 : (.methodLink RL 35 yX3_tokenAt : Cond) ∈ es_T := es_in 242 rfl rfl
theorem xw_47 : (.instanceMethod yX3_tokenAt : Cond) ∈ es_T := es_in 243 rfl rfl
theorem xw_48 : (.selects RX3 yX3_tokenAt yX3_tokenAt : Cond) ∈ es_T := es_in 244 rfl rfl
theorem xw_49 : (.code yX4_tokenAt cX4_tokenAt 4 (some .int) : Cond) ∈ es_T := es_in 386 rfl rfl
theorem xw_50 : (.methodLink RL 39 yX4_tokenAt : Cond) ∈ es_T := es_in 383 rfl rfl
theorem xw_51 : (.instanceMethod yX4_tokenAt : Cond) ∈ es_T := es_in 384 rfl rfl
theorem xw_52 : (.selects RX4 yX4_tokenAt yX4_tokenAt : Cond) ∈ es_T := es_in 385 rfl rfl
theorem xw_53 : (.code yX3_symbol cX3_symbol 2 (some .int) : Cond) ∈ es_T := es_in 253 rfl rfl
theorem xw_54 : (.methodLink RL 40 yX3_symbol : Cond) ∈ es_T := es_in 250 rfl rfl
theorem xw_55 : (.instanceMethod yX3_symbol : Cond) ∈ es_T := es_in 251 rfl rfl
theorem xw_56 : (.selects RX3 yX3_symbol yX3_symbol : Cond) ∈ es_T := es_in 252 rfl rfl
theorem xw_57 : (.code yX4_symbol cX4_symbol 2 (some .int) : Cond) ∈ es_T := es_in 390 rfl rfl
theorem xw_58 : (.methodLink RL 43 yX4_symbol : Cond) ∈ es_T := es_in 387 rfl rfl
theorem xw_59 : (.instanceMethod yX4_symbol : Cond) ∈ es_T := es_in 388 rfl rfl
theorem xw_60 : (.selects RX4 yX4_symbol yX4_symbol : Cond) ∈ es_T := es_in 389 rfl rfl
theorem xw_61 : (.code yX3_count cX3_count 2 (some .int) : Cond) ∈ es_T := es_in 257 rfl rfl
theorem xw_62 : (.methodLink RL 44 yX3_count : Cond) ∈ es_T := es_in 254 rfl rfl
theorem xw_63 : (.instanceMethod yX3_count : Cond) ∈ es_T := es_in 255 rfl rfl
theorem xw_64 : (.selects RX3 yX3_count yX3_count : Cond) ∈ es_T := es_in 256 rfl rfl
theorem xw_65 : (.code yX4_count cX4_count 2 (some .int) : Cond) ∈ es_T := es_in 394 rfl rfl
theorem xw_66 : (.methodLink RL 47 yX4_count : Cond) ∈ es_T := es_in 391 rfl rfl
theorem xw_67 : (.instanceMethod yX4_count : Cond) ∈ es_T := es_in 392 rfl rfl
theorem xw_68 : (.selects RX4 yX4_count yX4_count : Cond) ∈ es_T := es_in 393 rfl rfl
theorem xw_69 : (.code yX3_clear cX3_clear 2 (some .int) : Cond) ∈ es_T := es_in 261 rfl rfl
theorem xw_70 : (.methodLink RL 48 yX3_clear : Cond) ∈ es_T := es_in 258 rfl rfl
theorem xw_71 : (.instanceMethod yX3_clear : Cond) ∈ es_T := es_in 259 rfl rfl
theorem xw_72 : (.selects RX3 yX3_clear yX3_clear : Cond) ∈ es_T := es_in 260 rfl rfl
theorem xw_73 : (.code yX4_clear cX4_clear 2 (some .int) : Cond) ∈ es_T := es_in 398 rfl rfl
theorem xw_74 : (.methodLink RL 52 yX4_clear : Cond) ∈ es_T := es_in 395 rfl rfl
theorem xw_75 : (.instanceMethod yX4_clear : Cond) ∈ es_T := es_in 396 rfl rfl
theorem xw_76 : (.selects RX4 yX4_clear yX4_clear : Cond) ∈ es_T := es_in 397 rfl rfl
theorem xw_77 : (.fieldLink RX0 24 "EditedScanner$Findings" "size" "I" : Cond) ∈ es_T := es_in 70 rfl rfl
theorem xw_78 : (.fieldLink RX0 9 "EditedScanner$Findings" "begins" "[I" : Cond) ∈ es_T := es_in 66 rfl rfl
theorem xw_79 : (.fieldLink RX0 15 "EditedScanner$Findings" "lengths" "[I" : Cond) ∈ es_T := es_in 67 rfl rfl
theorem xw_80 : (.fieldLink RX0 18 "EditedScanner$Findings" "kinds" "[I" : Cond) ∈ es_T := es_in 68 rfl rfl
theorem xw_81 : (.fieldLink RX0 21 "EditedScanner$Findings" "looks" "[I" : Cond) ∈ es_T := es_in 69 rfl rfl
theorem xw_82 : (.code yX0_has cX0_has 2 (some .boolean) : Cond) ∈ es_T := es_in 195 rfl rfl
theorem xw_83 : (.initialized RX0 : Cond) ∈ es_T := es_in 14 rfl rfl
theorem xw_84 : (.methodLink RX0 32 yX0_has : Cond) ∈ es_T := es_in 192 rfl rfl
theorem xw_85 : (.instanceMethod yX0_has : Cond) ∈ es_T := es_in 194 rfl rfl
theorem xw_86 : (.selects RX0 yX0_has yX0_has : Cond) ∈ es_T := es_in 1 rfl rfl
theorem xw_87 : (.methodLink RX0 36 Lib.Math.max.name : Cond) ∈ es_T := es_in 185 rfl rfl
theorem xw_88 : (.static Lib.Math.max.name : Cond) ∈ es_T := es_in 186 rfl rfl
theorem xw_89 : (.initialized "java/lang/Math" : Cond) ∈ es_T := es_in 17 rfl rfl
theorem xw_90 : (.code Lib.Math.max.name Lib.Math.max.code 2 (some .int) : Cond) ∈ es_T := es_in 187 rfl rfl
theorem xw_91 : (.methodLink RX0 3 objectInit : Cond) ∈ es_T := es_in 65 rfl rfl
theorem xw_92 : (.instanceMethod objectInit : Cond) ∈ es_T := es_in 24 rfl rfl
theorem xw_93 : (.code objectInit ⟨#[0xb1]⟩ 1 none : Cond) ∈ es_T := es_in 25 rfl rfl
theorem xw_94 : (.arrayClass .int : Cond) ∈ es_T := es_in 46 rfl rfl
theorem xw_95 : (.code yX0_add cX0_add 5 none : Cond) ∈ es_T := es_in 172 rfl rfl
theorem xw_96 : (.methodLink RX0 42 yX0_add : Cond) ∈ es_T := es_in 169 rfl rfl
theorem xw_97 : (.instanceMethod yX0_add : Cond) ∈ es_T := es_in 170 rfl rfl
theorem xw_98 : (.selects RX0 yX0_add yX0_add : Cond) ∈ es_T := es_in 171 rfl rfl
theorem xw_99 : (.code yX0_failed cX0_failed 1 (some .boolean) : Cond) ∈ es_T := es_in 220 rfl rfl
theorem xw_100 : (.methodLink RX0 28 yX0_failed : Cond) ∈ es_T := es_in 229 rfl rfl
theorem xw_101 : (.instanceMethod yX0_failed : Cond) ∈ es_T := es_in 218 rfl rfl
theorem xw_102 : (.selects RX0 yX0_failed yX0_failed : Cond) ∈ es_T := es_in 219 rfl rfl
theorem xw_103 : (.fieldLink RX1 9 "EditedScanner$Table" "arrows" "[I" : Cond) ∈ es_T := es_in 39 rfl rfl
theorem xw_104 : (.code yJ7_fill_53178 cJ7_fill_53178 4 none : Cond) ∈ es_T := es_in 38 rfl rfl
theorem xw_105 : (.initialized RJ7 : Cond) ∈ es_T := es_in 12 rfl rfl
theorem xw_106 : (.methodLink RX1 21 yJ7_fill_53178 : Cond) ∈ es_T := es_in 36 rfl rfl
theorem xw_107 : (.static yJ7_fill_53178 : Cond) ∈ es_T := es_in 37 rfl rfl
theorem xw_108 : (.fieldLink RX1 15 "EditedScanner$Table" "kinds" "[I" : Cond) ∈ es_T := es_in 40 rfl rfl
theorem xw_109 : (.methodLink RX1 3 objectInit : Cond) ∈ es_T := es_in 31 rfl rfl
theorem xw_110 : (.code yX1_forget cX1_forget 1 none : Cond) ∈ es_T := es_in 35 rfl rfl
theorem xw_111 : (.initialized RX1 : Cond) ∈ es_T := es_in 11 rfl rfl
theorem xw_112 : (.methodLink RX1 18 yX1_forget : Cond) ∈ es_T := es_in 32 rfl rfl
theorem xw_113 : (.instanceMethod yX1_forget : Cond) ∈ es_T := es_in 33 rfl rfl
theorem xw_114 : (.selects RX1 yX1_forget yX1_forget : Cond) ∈ es_T := es_in 34 rfl rfl
theorem xw_115 : (.code yX1_isState cX1_isState 1 (some .boolean) : Cond) ∈ es_T := es_in 118 rfl rfl
theorem xw_116 : (.methodLink RX1 27 yX1_isState : Cond) ∈ es_T := es_in 116 rfl rfl
theorem xw_117 : (.static yX1_isState : Cond) ∈ es_T := es_in 117 rfl rfl
theorem xw_118 : (.code yX1_isSymbol cX1_isSymbol 1 (some .boolean) : Cond) ∈ es_T := es_in 121 rfl rfl
theorem xw_119 : (.methodLink RX1 31 yX1_isSymbol : Cond) ∈ es_T := es_in 119 rfl rfl
theorem xw_120 : (.static yX1_isSymbol : Cond) ∈ es_T := es_in 120 rfl rfl
theorem xw_121 : (.fieldLink RX2 15 "EditedScanner$Text" "size" "I" : Cond) ∈ es_T := es_in 54 rfl rfl
theorem xw_122 : (.fieldLink RX2 9 "EditedScanner$Text" "row" "[I" : Cond) ∈ es_T := es_in 53 rfl rfl
theorem xw_123 : (.methodLink RX2 3 objectInit : Cond) ∈ es_T := es_in 52 rfl rfl
theorem xw_124 : (.code yX2_canReplace cX2_canReplace 4 (some .boolean) : Cond) ∈ es_T := es_in 137 rfl rfl
theorem xw_125 : (.initialized RX2 : Cond) ∈ es_T := es_in 13 rfl rfl
theorem xw_126 : (.methodLink RX2 19 yX2_canReplace : Cond) ∈ es_T := es_in 156 rfl rfl
theorem xw_127 : (.instanceMethod yX2_canReplace : Cond) ∈ es_T := es_in 135 rfl rfl
theorem xw_128 : (.selects RX2 yX2_canReplace yX2_canReplace : Cond) ∈ es_T := es_in 136 rfl rfl
theorem xw_129 : (.methodLink RX2 23 arraycopyName : Cond) ∈ es_T := es_in 157 rfl rfl
theorem xw_130 : (.native arraycopyName : Cond) ∈ es_T := es_in 159 rfl rfl
theorem xw_131 : (.static arraycopyName : Cond) ∈ es_T := es_in 158 rfl rfl
theorem xw_132 : (.initialized "java/lang/System" : Cond) ∈ es_T := es_in 16 rfl rfl
theorem xw_133 : (.code yX3_unpack cX3_unpack 4 (some .int) : Cond) ∈ es_T := es_in 143 rfl rfl
theorem xw_134 : (.static yX3_unpack : Cond) ∈ es_T := es_in 142 rfl rfl
theorem xw_135 : (.methodLink RX3 108 yX3_unpack : Cond) ∈ es_T := es_in 141 rfl rfl
theorem xw_136 : (.fieldLink RX3 19 "EditedScanner" "text" "LEditedScanner$Text;" : Cond) ∈ es_T := es_in 83 rfl rfl
theorem xw_137 : (.code yX2_isEmpty cX2_isEmpty 1 (some .boolean) : Cond) ∈ es_T := es_in 111 rfl rfl
theorem xw_138 : (.methodLink RX3 33 yX2_isEmpty : Cond) ∈ es_T := es_in 108 rfl rfl
theorem xw_139 : (.instanceMethod yX2_isEmpty : Cond) ∈ es_T := es_in 109 rfl rfl
theorem xw_140 : (.selects RX2 yX2_isEmpty yX2_isEmpty : Cond) ∈ es_T := es_in 110 rfl rfl
theorem xw_141 : (.fieldLink RX3 10 "EditedScanner" "table" "LEditedScanner$Table;" : Cond) ∈ es_T := es_in 82 rfl rfl
theorem xw_142 : (.code yX1_setArrow cX1_setArrow 4 (some .boolean) : Cond) ∈ es_T := es_in 115 rfl rfl
theorem xw_143 : (.methodLink RX3 37 yX1_setArrow : Cond) ∈ es_T := es_in 112 rfl rfl
theorem xw_144 : (.instanceMethod yX1_setArrow : Cond) ∈ es_T := es_in 113 rfl rfl
theorem xw_145 : (.selects RX1 yX1_setArrow yX1_setArrow : Cond) ∈ es_T := es_in 114 rfl rfl
theorem xw_146 : (.fieldLink RX3 26 "EditedScanner" "found" "LEditedScanner$Findings;" : Cond) ∈ es_T := es_in 84 rfl rfl
theorem xw_147 : (.code yX0_tokens cX0_tokens 1 (some .int) : Cond) ∈ es_T := es_in 228 rfl rfl
theorem xw_148 : (.methodLink RX3 78 yX0_tokens : Cond) ∈ es_T := es_in 225 rfl rfl
theorem xw_149 : (.instanceMethod yX0_tokens : Cond) ∈ es_T := es_in 226 rfl rfl
theorem xw_150 : (.selects RX0 yX0_tokens yX0_tokens : Cond) ∈ es_T := es_in 227 rfl rfl
theorem xw_151 : (.methodLink RX3 103 yX1_forget : Cond) ∈ es_T := es_in 262 rfl rfl
theorem xw_152 : (.code yX2_forget cX2_forget 1 none : Cond) ∈ es_T := es_in 266 rfl rfl
theorem xw_153 : (.methodLink RX3 106 yX2_forget : Cond) ∈ es_T := es_in 263 rfl rfl
theorem xw_154 : (.instanceMethod yX2_forget : Cond) ∈ es_T := es_in 264 rfl rfl
theorem xw_155 : (.selects RX2 yX2_forget yX2_forget : Cond) ∈ es_T := es_in 265 rfl rfl
theorem xw_156 : (.code yX0_forget cX0_forget 1 none : Cond) ∈ es_T := es_in 270 rfl rfl
theorem xw_157 : (.methodLink RX3 107 yX0_forget : Cond) ∈ es_T := es_in 267 rfl rfl
theorem xw_158 : (.instanceMethod yX0_forget : Cond) ∈ es_T := es_in 268 rfl rfl
theorem xw_159 : (.selects RX0 yX0_forget yX0_forget : Cond) ∈ es_T := es_in 269 rfl rfl
theorem xw_160 : (.fieldLink RX3 64 "EditedScanner" "readByLast" "I" : Cond) ∈ es_T := es_in 86 rfl rfl
theorem xw_161 : (.fieldLink RX3 68 "EditedScanner" "scannedByLast" "I" : Cond) ∈ es_T := es_in 87 rfl rfl
theorem xw_162 : (.fieldLink RX3 71 "EditedScanner" "edits" "I" : Cond) ∈ es_T := es_in 88 rfl rfl
theorem xw_163 : (.code yX2_size cX2_size 1 (some .int) : Cond) ∈ es_T := es_in 180 rfl rfl
theorem xw_164 : (.methodLink RX3 99 yX2_size : Cond) ∈ es_T := es_in 177 rfl rfl
theorem xw_165 : (.instanceMethod yX2_size : Cond) ∈ es_T := es_in 178 rfl rfl
theorem xw_166 : (.selects RX2 yX2_size yX2_size : Cond) ∈ es_T := es_in 179 rfl rfl
theorem xw_167 : (.methodLink RX3 100 yX0_failed : Cond) ∈ es_T := es_in 217 rfl rfl
theorem xw_168 : (.code yX0_begin cX0_begin 2 (some .int) : Cond) ∈ es_T := es_in 191 rfl rfl
theorem xw_169 : (.methodLink RX3 81 yX0_begin : Cond) ∈ es_T := es_in 188 rfl rfl
theorem xw_170 : (.instanceMethod yX0_begin : Cond) ∈ es_T := es_in 189 rfl rfl
theorem xw_171 : (.selects RX0 yX0_begin yX0_begin : Cond) ∈ es_T := es_in 190 rfl rfl
theorem xw_172 : (.code yX0_looked cX0_looked 2 (some .int) : Cond) ∈ es_T := es_in 241 rfl rfl
theorem xw_173 : (.methodLink RX3 90 yX0_looked : Cond) ∈ es_T := es_in 238 rfl rfl
theorem xw_174 : (.instanceMethod yX0_looked : Cond) ∈ es_T := es_in 239 rfl rfl
theorem xw_175 : (.selects RX0 yX0_looked yX0_looked : Cond) ∈ es_T := es_in 240 rfl rfl
theorem xw_176 : (.methodLink RX3 45 yX2_canReplace : Cond) ∈ es_T := es_in 134 rfl rfl
theorem xw_177 : (.code yX3_areSymbols cX3_areSymbols 4 (some .boolean) : Cond) ∈ es_T := es_in 140 rfl rfl
theorem xw_178 : (.methodLink RX3 48 yX3_areSymbols : Cond) ∈ es_T := es_in 138 rfl rfl
theorem xw_179 : (.static yX3_areSymbols : Cond) ∈ es_T := es_in 139 rfl rfl
theorem xw_180 : (.code yX0_firstThatLookedAt cX0_firstThatLookedAt 3 (some .int) : Cond) ∈ es_T := es_in 147 rfl rfl
theorem xw_181 : (.methodLink RX3 52 yX0_firstThatLookedAt : Cond) ∈ es_T := es_in 144 rfl rfl
theorem xw_182 : (.instanceMethod yX0_firstThatLookedAt : Cond) ∈ es_T := es_in 145 rfl rfl
theorem xw_183 : (.selects RX0 yX0_firstThatLookedAt yX0_firstThatLookedAt : Cond) ∈ es_T := es_in 146 rfl rfl
theorem xw_184 : (.code yX0_size cX0_size 1 (some .int) : Cond) ∈ es_T := es_in 151 rfl rfl
theorem xw_185 : (.methodLink RX3 56 yX0_size : Cond) ∈ es_T := es_in 148 rfl rfl
theorem xw_186 : (.instanceMethod yX0_size : Cond) ∈ es_T := es_in 149 rfl rfl
theorem xw_187 : (.selects RX0 yX0_size yX0_size : Cond) ∈ es_T := es_in 150 rfl rfl
theorem xw_188 : (.code yX2_replace cX2_replace 7 none : Cond) ∈ es_T := es_in 155 rfl rfl
theorem xw_189 : (.methodLink RX3 60 yX2_replace : Cond) ∈ es_T := es_in 152 rfl rfl
theorem xw_190 : (.instanceMethod yX2_replace : Cond) ∈ es_T := es_in 153 rfl rfl
theorem xw_191 : (.selects RX2 yX2_replace yX2_replace : Cond) ∈ es_T := es_in 154 rfl rfl
theorem xw_192 : (.code yX3_scanAnew cX3_scanAnew 7 none : Cond) ∈ es_T := es_in 164 rfl rfl
theorem xw_193 : (.methodLink RX3 74 yX3_scanAnew : Cond) ∈ es_T := es_in 161 rfl rfl
theorem xw_194 : (.instanceMethod yX3_scanAnew : Cond) ∈ es_T := es_in 163 rfl rfl
theorem xw_195 : (.selects RX3 yX3_scanAnew yX3_scanAnew : Cond) ∈ es_T := es_in 0 rfl rfl
theorem xw_196 : (.methodLink RX3 1 objectInit : Cond) ∈ es_T := es_in 23 rfl rfl
theorem xw_197 : (.classLink RX3 7 RX1 : Cond) ∈ es_T := es_in 26 rfl rfl
theorem xw_198 : (.instantiable RX1 2 : Cond) ∈ es_T := es_in 27 rfl rfl
theorem xw_199 : (.code yX1_init cX1_init 1 none : Cond) ∈ es_T := es_in 30 rfl rfl
theorem xw_200 : (.methodLink RX3 9 yX1_init : Cond) ∈ es_T := es_in 28 rfl rfl
theorem xw_201 : (.instanceMethod yX1_init : Cond) ∈ es_T := es_in 29 rfl rfl
theorem xw_202 : (.classLink RX3 16 RX2 : Cond) ∈ es_T := es_in 47 rfl rfl
theorem xw_203 : (.instantiable RX2 2 : Cond) ∈ es_T := es_in 48 rfl rfl
theorem xw_204 : (.code yX2_init cX2_init 1 none : Cond) ∈ es_T := es_in 51 rfl rfl
theorem xw_205 : (.instanceMethod yX2_init : Cond) ∈ es_T := es_in 50 rfl rfl
theorem xw_206 : (.classLink RX3 23 RX0 : Cond) ∈ es_T := es_in 60 rfl rfl
theorem xw_207 : (.instantiable RX0 5 : Cond) ∈ es_T := es_in 61 rfl rfl
theorem xw_208 : (.code yX0_init cX0_init 1 none : Cond) ∈ es_T := es_in 64 rfl rfl
theorem xw_209 : (.instanceMethod yX0_init : Cond) ∈ es_T := es_in 63 rfl rfl
theorem xw_210 : (.fieldLink RX3 30 "EditedScanner" "spare" "LEditedScanner$Findings;" : Cond) ∈ es_T := es_in 85 rfl rfl
theorem xw_211 : (.code yX1_setKind cX1_setKind 3 (some .boolean) : Cond) ∈ es_T := es_in 129 rfl rfl
theorem xw_212 : (.methodLink RX3 41 yX1_setKind : Cond) ∈ es_T := es_in 126 rfl rfl
theorem xw_213 : (.instanceMethod yX1_setKind : Cond) ∈ es_T := es_in 127 rfl rfl
theorem xw_214 : (.selects RX1 yX1_setKind yX1_setKind : Cond) ∈ es_T := es_in 128 rfl rfl
theorem xw_215 : (.code yX0_takeUpTo cX0_takeUpTo 4 none : Cond) ∈ es_T := es_in 168 rfl rfl
theorem xw_216 : (.methodLink RX3 112 yX0_takeUpTo : Cond) ∈ es_T := es_in 165 rfl rfl
theorem xw_217 : (.instanceMethod yX0_takeUpTo : Cond) ∈ es_T := es_in 166 rfl rfl
theorem xw_218 : (.selects RX0 yX0_takeUpTo yX0_takeUpTo : Cond) ∈ es_T := es_in 167 rfl rfl
theorem xw_219 : (.code yX0_nextBegin cX0_nextBegin 1 (some .int) : Cond) ∈ es_T := es_in 176 rfl rfl
theorem xw_220 : (.methodLink RX3 116 yX0_nextBegin : Cond) ∈ es_T := es_in 173 rfl rfl
theorem xw_221 : (.instanceMethod yX0_nextBegin : Cond) ∈ es_T := es_in 174 rfl rfl
theorem xw_222 : (.selects RX0 yX0_nextBegin yX0_nextBegin : Cond) ∈ es_T := es_in 175 rfl rfl
theorem xw_223 : (.code yX0_firstFrom cX0_firstFrom 4 (some .int) : Cond) ∈ es_T := es_in 184 rfl rfl
theorem xw_224 : (.methodLink RX3 119 yX0_firstFrom : Cond) ∈ es_T := es_in 181 rfl rfl
theorem xw_225 : (.instanceMethod yX0_firstFrom : Cond) ∈ es_T := es_in 182 rfl rfl
theorem xw_226 : (.selects RX0 yX0_firstFrom yX0_firstFrom : Cond) ∈ es_T := es_in 183 rfl rfl
theorem xw_227 : (.code yX0_takeMoved cX0_takeMoved 5 none : Cond) ∈ es_T := es_in 199 rfl rfl
theorem xw_228 : (.methodLink RX3 123 yX0_takeMoved : Cond) ∈ es_T := es_in 196 rfl rfl
theorem xw_229 : (.instanceMethod yX0_takeMoved : Cond) ∈ es_T := es_in 197 rfl rfl
theorem xw_230 : (.selects RX0 yX0_takeMoved yX0_takeMoved : Cond) ∈ es_T := es_in 198 rfl rfl
theorem xw_231 : (.code yX3_scanOne cX3_scanOne 6 none : Cond) ∈ es_T := es_in 203 rfl rfl
theorem xw_232 : (.methodLink RX3 127 yX3_scanOne : Cond) ∈ es_T := es_in 200 rfl rfl
theorem xw_233 : (.instanceMethod yX3_scanOne : Cond) ∈ es_T := es_in 202 rfl rfl
theorem xw_234 : (.selects RX3 yX3_scanOne yX3_scanOne : Cond) ∈ es_T := es_in 2 rfl rfl
theorem xw_235 : (.code yX2_at cX2_at 2 (some .int) : Cond) ∈ es_T := es_in 207 rfl rfl
theorem xw_236 : (.methodLink RX3 96 yX2_at : Cond) ∈ es_T := es_in 204 rfl rfl
theorem xw_237 : (.instanceMethod yX2_at : Cond) ∈ es_T := es_in 205 rfl rfl
theorem xw_238 : (.selects RX2 yX2_at yX2_at : Cond) ∈ es_T := es_in 206 rfl rfl
theorem xw_239 : (.code yX1_next cX1_next 3 (some .int) : Cond) ∈ es_T := es_in 211 rfl rfl
theorem xw_240 : (.methodLink RX3 131 yX1_next : Cond) ∈ es_T := es_in 208 rfl rfl
theorem xw_241 : (.instanceMethod yX1_next : Cond) ∈ es_T := es_in 209 rfl rfl
theorem xw_242 : (.selects RX1 yX1_next yX1_next : Cond) ∈ es_T := es_in 210 rfl rfl
theorem xw_243 : (.code yX1_kindOf cX1_kindOf 2 (some .int) : Cond) ∈ es_T := es_in 215 rfl rfl
theorem xw_244 : (.methodLink RX3 134 yX1_kindOf : Cond) ∈ es_T := es_in 212 rfl rfl
theorem xw_245 : (.instanceMethod yX1_kindOf : Cond) ∈ es_T := es_in 213 rfl rfl
theorem xw_246 : (.selects RX1 yX1_kindOf yX1_kindOf : Cond) ∈ es_T := es_in 214 rfl rfl
theorem xw_247 : (.methodLink RX3 137 yX0_add : Cond) ∈ es_T := es_in 216 rfl rfl
theorem xw_248 : (.code yX0_length cX0_length 2 (some .int) : Cond) ∈ es_T := es_in 233 rfl rfl
theorem xw_249 : (.methodLink RX3 84 yX0_length : Cond) ∈ es_T := es_in 230 rfl rfl
theorem xw_250 : (.instanceMethod yX0_length : Cond) ∈ es_T := es_in 231 rfl rfl
theorem xw_251 : (.selects RX0 yX0_length yX0_length : Cond) ∈ es_T := es_in 232 rfl rfl
theorem xw_252 : (.code yX0_kindFound cX0_kindFound 2 (some .int) : Cond) ∈ es_T := es_in 237 rfl rfl
theorem xw_253 : (.methodLink RX3 87 yX0_kindFound : Cond) ∈ es_T := es_in 234 rfl rfl
theorem xw_254 : (.instanceMethod yX0_kindFound : Cond) ∈ es_T := es_in 235 rfl rfl
theorem xw_255 : (.selects RX0 yX0_kindFound yX0_kindFound : Cond) ∈ es_T := es_in 236 rfl rfl
theorem xw_256 : (.code yX0_tokenAround cX0_tokenAround 3 (some .int) : Cond) ∈ es_T := es_in 249 rfl rfl
theorem xw_257 : (.methodLink RX3 93 yX0_tokenAround : Cond) ∈ es_T := es_in 246 rfl rfl
theorem xw_258 : (.instanceMethod yX0_tokenAround : Cond) ∈ es_T := es_in 247 rfl rfl
theorem xw_259 : (.selects RX0 yX0_tokenAround yX0_tokenAround : Cond) ∈ es_T := es_in 248 rfl rfl
theorem xw_260 : (.fieldLink RX4 41 "EditedScannerModel" "size" "I" : Cond) ∈ es_T := es_in 284 rfl rfl
theorem xw_261 : (.fieldLink RX4 7 "EditedScannerModel" "arrows" "[I" : Cond) ∈ es_T := es_in 281 rfl rfl
theorem xw_262 : (.fieldLink RX4 72 "EditedScannerModel" "oldFailed" "I" : Cond) ∈ es_T := es_in 294 rfl rfl
theorem xw_263 : (.fieldLink RX4 75 "EditedScannerModel" "oldSize" "I" : Cond) ∈ es_T := es_in 295 rfl rfl
theorem xw_264 : (.fieldLink RX4 78 "EditedScannerModel" "oldTokens" "I" : Cond) ∈ es_T := es_in 292 rfl rfl
theorem xw_265 : (.fieldLink RX4 35 "EditedScannerModel" "oldBegins" "[I" : Cond) ∈ es_T := es_in 293 rfl rfl
theorem xw_266 : (.fieldLink RX4 16 "EditedScannerModel" "text" "[I" : Cond) ∈ es_T := es_in 283 rfl rfl
theorem xw_267 : (.constantLong RX4 81 (15 : Int64) : Cond) ∈ es_T := es_in 357 rfl rfl
theorem xw_268 : (.fieldLink RX4 44 "EditedScannerModel" "tokens" "I" : Cond) ∈ es_T := es_in 285 rfl rfl
theorem xw_269 : (.code yX4_forget cX4_forget 2 none : Cond) ∈ es_T := es_in 280 rfl rfl
theorem xw_270 : (.methodLink RX4 38 yX4_forget : Cond) ∈ es_T := es_in 277 rfl rfl
theorem xw_271 : (.instanceMethod yX4_forget : Cond) ∈ es_T := es_in 279 rfl rfl
theorem xw_272 : (.selects RX4 yX4_forget yX4_forget : Cond) ∈ es_T := es_in 3 rfl rfl
theorem xw_273 : (.fieldLink RX4 31 "EditedScannerModel" "failed" "I" : Cond) ∈ es_T := es_in 290 rfl rfl
theorem xw_274 : (.fieldLink RX4 47 "EditedScannerModel" "failedLook" "I" : Cond) ∈ es_T := es_in 291 rfl rfl
theorem xw_275 : (.fieldLink RX4 50 "EditedScannerModel" "read" "I" : Cond) ∈ es_T := es_in 296 rfl rfl
theorem xw_276 : (.fieldLink RX4 53 "EditedScannerModel" "scanned" "I" : Cond) ∈ es_T := es_in 297 rfl rfl
theorem xw_277 : (.fieldLink RX4 56 "EditedScannerModel" "edits" "I" : Cond) ∈ es_T := es_in 298 rfl rfl
theorem xw_278 : (.constantLong RX4 83 (10 : Int64) : Cond) ∈ es_T := es_in 358 rfl rfl
theorem xw_279 : (.fieldLink RX4 19 "EditedScannerModel" "begins" "[I" : Cond) ∈ es_T := es_in 286 rfl rfl
theorem xw_280 : (.fieldLink RX4 28 "EditedScannerModel" "looks" "[I" : Cond) ∈ es_T := es_in 289 rfl rfl
theorem xw_281 : (.code yX4_change cX4_change 8 none : Cond) ∈ es_T := es_in 362 rfl rfl
theorem xw_282 : (.methodLink RX4 85 yX4_change : Cond) ∈ es_T := es_in 359 rfl rfl
theorem xw_283 : (.instanceMethod yX4_change : Cond) ∈ es_T := es_in 361 rfl rfl
theorem xw_284 : (.selects RX4 yX4_change yX4_change : Cond) ∈ es_T := es_in 4 rfl rfl
theorem xw_285 : (.code yX4_goOver cX4_goOver 7 none : Cond) ∈ es_T := es_in 366 rfl rfl
theorem xw_286 : (.methodLink RX4 89 yX4_goOver : Cond) ∈ es_T := es_in 363 rfl rfl
theorem xw_287 : (.instanceMethod yX4_goOver : Cond) ∈ es_T := es_in 365 rfl rfl
theorem xw_288 : (.selects RX4 yX4_goOver yX4_goOver : Cond) ∈ es_T := es_in 5 rfl rfl
theorem xw_289 : (.code yX4_scanAll cX4_scanAll 2 none : Cond) ∈ es_T := es_in 378 rfl rfl
theorem xw_290 : (.methodLink RX4 93 yX4_scanAll : Cond) ∈ es_T := es_in 375 rfl rfl
theorem xw_291 : (.instanceMethod yX4_scanAll : Cond) ∈ es_T := es_in 377 rfl rfl
theorem xw_292 : (.selects RX4 yX4_scanAll yX4_scanAll : Cond) ∈ es_T := es_in 8 rfl rfl
theorem xw_293 : (.fieldLink RX4 13 "EditedScannerModel" "kinds" "[I" : Cond) ∈ es_T := es_in 282 rfl rfl
theorem xw_294 : (.code yX4_began cX4_began 4 (some .boolean) : Cond) ∈ es_T := es_in 370 rfl rfl
theorem xw_295 : (.methodLink RX4 96 yX4_began : Cond) ∈ es_T := es_in 367 rfl rfl
theorem xw_296 : (.instanceMethod yX4_began : Cond) ∈ es_T := es_in 369 rfl rfl
theorem xw_297 : (.selects RX4 yX4_began yX4_began : Cond) ∈ es_T := es_in 6 rfl rfl
theorem xw_298 : (.code yX4_scan cX4_scan 4 (some .boolean) : Cond) ∈ es_T := es_in 374 rfl rfl
theorem xw_299 : (.methodLink RX4 68 yX4_scan : Cond) ∈ es_T := es_in 371 rfl rfl
theorem xw_300 : (.instanceMethod yX4_scan : Cond) ∈ es_T := es_in 373 rfl rfl
theorem xw_301 : (.selects RX4 yX4_scan yX4_scan : Cond) ∈ es_T := es_in 7 rfl rfl
theorem xw_302 : (.fieldLink RX4 65 "EditedScannerModel" "tokenLook" "I" : Cond) ∈ es_T := es_in 301 rfl rfl
theorem xw_303 : (.fieldLink RX4 59 "EditedScannerModel" "tokenSize" "I" : Cond) ∈ es_T := es_in 299 rfl rfl
theorem xw_304 : (.methodLink RX4 1 objectInit : Cond) ∈ es_T := es_in 276 rfl rfl
theorem xw_305 : (.fieldLink RX4 22 "EditedScannerModel" "sizes" "[I" : Cond) ∈ es_T := es_in 287 rfl rfl
theorem xw_306 : (.fieldLink RX4 25 "EditedScannerModel" "sorts" "[I" : Cond) ∈ es_T := es_in 288 rfl rfl
theorem xw_307 : (.fieldLink RX4 62 "EditedScannerModel" "tokenKind" "I" : Cond) ∈ es_T := es_in 300 rfl rfl
theorem k0_X3_init : yX3_init.cls ≠ "java/lang/invoke/MethodHandle" ∧ yX3_init.cls ≠ "java/lang/invoke/VarHandle" ∧ (parseMethodDescriptor yX3_init.desc).map (fun d => d.parameters.length) = some 0 := by decide +kernel
theorem kv_X3_init : yX3_init.cls = RX3 ∧ yX3_init.cls ≠ "java/lang/invoke/MethodHandle" ∧ yX3_init.cls ≠ "java/lang/invoke/VarHandle" ∧ (parseMethodDescriptor yX3_init.desc).map (fun d => d.parameters.length) = some 0 := by decide +kernel
theorem k0_X4_init : yX4_init.cls ≠ "java/lang/invoke/MethodHandle" ∧ yX4_init.cls ≠ "java/lang/invoke/VarHandle" ∧ (parseMethodDescriptor yX4_init.desc).map (fun d => d.parameters.length) = some 0 := by decide +kernel
theorem kv_X4_init : yX4_init.cls = RX4 ∧ yX4_init.cls ≠ "java/lang/invoke/MethodHandle" ∧ yX4_init.cls ≠ "java/lang/invoke/VarHandle" ∧ (parseMethodDescriptor yX4_init.desc).map (fun d => d.parameters.length) = some 0 := by decide +kernel
theorem k0_X3_arrow : yX3_arrow.cls ≠ "java/lang/invoke/MethodHandle" ∧ yX3_arrow.cls ≠ "java/lang/invoke/VarHandle" ∧ (parseMethodDescriptor yX3_arrow.desc).map (fun d => d.parameters.length) = some 3 := by decide +kernel
theorem kv_X3_arrow : yX3_arrow.cls = RX3 ∧ yX3_arrow.cls ≠ "java/lang/invoke/MethodHandle" ∧ yX3_arrow.cls ≠ "java/lang/invoke/VarHandle" ∧ (parseMethodDescriptor yX3_arrow.desc).map (fun d => d.parameters.length) = some 3 := by decide +kernel
theorem k0_X4_arrow : yX4_arrow.cls ≠ "java/lang/invoke/MethodHandle" ∧ yX4_arrow.cls ≠ "java/lang/invoke/VarHandle" ∧ (parseMethodDescriptor yX4_arrow.desc).map (fun d => d.parameters.length) = some 3 := by decide +kernel
theorem kv_X4_arrow : yX4_arrow.cls = RX4 ∧ yX4_arrow.cls ≠ "java/lang/invoke/MethodHandle" ∧ yX4_arrow.cls ≠ "java/lang/invoke/VarHandle" ∧ (parseMethodDescriptor yX4_arrow.desc).map (fun d => d.parameters.length) = some 3 := by decide +kernel
theorem k0_X3_kind : yX3_kind.cls ≠ "java/lang/invoke/MethodHandle" ∧ yX3_kind.cls ≠ "java/lang/invoke/VarHandle" ∧ (parseMethodDescriptor yX3_kind.desc).map (fun d => d.parameters.length) = some 2 := by decide +kernel
theorem kv_X3_kind : yX3_kind.cls = RX3 ∧ yX3_kind.cls ≠ "java/lang/invoke/MethodHandle" ∧ yX3_kind.cls ≠ "java/lang/invoke/VarHandle" ∧ (parseMethodDescriptor yX3_kind.desc).map (fun d => d.parameters.length) = some 2 := by decide +kernel
theorem k0_X4_kind : yX4_kind.cls ≠ "java/lang/invoke/MethodHandle" ∧ yX4_kind.cls ≠ "java/lang/invoke/VarHandle" ∧ (parseMethodDescriptor yX4_kind.desc).map (fun d => d.parameters.length) = some 2 := by decide +kernel
theorem kv_X4_kind : yX4_kind.cls = RX4 ∧ yX4_kind.cls ≠ "java/lang/invoke/MethodHandle" ∧ yX4_kind.cls ≠ "java/lang/invoke/VarHandle" ∧ (parseMethodDescriptor yX4_kind.desc).map (fun d => d.parameters.length) = some 2 := by decide +kernel
theorem k0_X3_edit : yX3_edit.cls ≠ "java/lang/invoke/MethodHandle" ∧ yX3_edit.cls ≠ "java/lang/invoke/VarHandle" ∧ (parseMethodDescriptor yX3_edit.desc).map (fun d => d.parameters.length) = some 4 := by decide +kernel
theorem kv_X3_edit : yX3_edit.cls = RX3 ∧ yX3_edit.cls ≠ "java/lang/invoke/MethodHandle" ∧ yX3_edit.cls ≠ "java/lang/invoke/VarHandle" ∧ (parseMethodDescriptor yX3_edit.desc).map (fun d => d.parameters.length) = some 4 := by decide +kernel
theorem k0_X4_edit : yX4_edit.cls ≠ "java/lang/invoke/MethodHandle" ∧ yX4_edit.cls ≠ "java/lang/invoke/VarHandle" ∧ (parseMethodDescriptor yX4_edit.desc).map (fun d => d.parameters.length) = some 4 := by decide +kernel
theorem kv_X4_edit : yX4_edit.cls = RX4 ∧ yX4_edit.cls ≠ "java/lang/invoke/MethodHandle" ∧ yX4_edit.cls ≠ "java/lang/invoke/VarHandle" ∧ (parseMethodDescriptor yX4_edit.desc).map (fun d => d.parameters.length) = some 4 := by decide +kernel
theorem k0_X3_token : yX3_token.cls ≠ "java/lang/invoke/MethodHandle" ∧ yX3_token.cls ≠ "java/lang/invoke/VarHandle" ∧ (parseMethodDescriptor yX3_token.desc).map (fun d => d.parameters.length) = some 2 := by decide +kernel
theorem kv_X3_token : yX3_token.cls = RX3 ∧ yX3_token.cls ≠ "java/lang/invoke/MethodHandle" ∧ yX3_token.cls ≠ "java/lang/invoke/VarHandle" ∧ (parseMethodDescriptor yX3_token.desc).map (fun d => d.parameters.length) = some 2 := by decide +kernel
theorem k0_X4_token : yX4_token.cls ≠ "java/lang/invoke/MethodHandle" ∧ yX4_token.cls ≠ "java/lang/invoke/VarHandle" ∧ (parseMethodDescriptor yX4_token.desc).map (fun d => d.parameters.length) = some 2 := by decide +kernel
theorem kv_X4_token : yX4_token.cls = RX4 ∧ yX4_token.cls ≠ "java/lang/invoke/MethodHandle" ∧ yX4_token.cls ≠ "java/lang/invoke/VarHandle" ∧ (parseMethodDescriptor yX4_token.desc).map (fun d => d.parameters.length) = some 2 := by decide +kernel
theorem k0_X3_tokenAt : yX3_tokenAt.cls ≠ "java/lang/invoke/MethodHandle" ∧ yX3_tokenAt.cls ≠ "java/lang/invoke/VarHandle" ∧ (parseMethodDescriptor yX3_tokenAt.desc).map (fun d => d.parameters.length) = some 1 := by decide +kernel
theorem kv_X3_tokenAt : yX3_tokenAt.cls = RX3 ∧ yX3_tokenAt.cls ≠ "java/lang/invoke/MethodHandle" ∧ yX3_tokenAt.cls ≠ "java/lang/invoke/VarHandle" ∧ (parseMethodDescriptor yX3_tokenAt.desc).map (fun d => d.parameters.length) = some 1 := by decide +kernel
theorem k0_X4_tokenAt : yX4_tokenAt.cls ≠ "java/lang/invoke/MethodHandle" ∧ yX4_tokenAt.cls ≠ "java/lang/invoke/VarHandle" ∧ (parseMethodDescriptor yX4_tokenAt.desc).map (fun d => d.parameters.length) = some 1 := by decide +kernel
theorem kv_X4_tokenAt : yX4_tokenAt.cls = RX4 ∧ yX4_tokenAt.cls ≠ "java/lang/invoke/MethodHandle" ∧ yX4_tokenAt.cls ≠ "java/lang/invoke/VarHandle" ∧ (parseMethodDescriptor yX4_tokenAt.desc).map (fun d => d.parameters.length) = some 1 := by decide +kernel
theorem k0_X3_symbol : yX3_symbol.cls ≠ "java/lang/invoke/MethodHandle" ∧ yX3_symbol.cls ≠ "java/lang/invoke/VarHandle" ∧ (parseMethodDescriptor yX3_symbol.desc).map (fun d => d.parameters.length) = some 1 := by decide +kernel
theorem kv_X3_symbol : yX3_symbol.cls = RX3 ∧ yX3_symbol.cls ≠ "java/lang/invoke/MethodHandle" ∧ yX3_symbol.cls ≠ "java/lang/invoke/VarHandle" ∧ (parseMethodDescriptor yX3_symbol.desc).map (fun d => d.parameters.length) = some 1 := by decide +kernel
theorem k0_X4_symbol : yX4_symbol.cls ≠ "java/lang/invoke/MethodHandle" ∧ yX4_symbol.cls ≠ "java/lang/invoke/VarHandle" ∧ (parseMethodDescriptor yX4_symbol.desc).map (fun d => d.parameters.length) = some 1 := by decide +kernel
theorem kv_X4_symbol : yX4_symbol.cls = RX4 ∧ yX4_symbol.cls ≠ "java/lang/invoke/MethodHandle" ∧ yX4_symbol.cls ≠ "java/lang/invoke/VarHandle" ∧ (parseMethodDescriptor yX4_symbol.desc).map (fun d => d.parameters.length) = some 1 := by decide +kernel
theorem k0_X3_count : yX3_count.cls ≠ "java/lang/invoke/MethodHandle" ∧ yX3_count.cls ≠ "java/lang/invoke/VarHandle" ∧ (parseMethodDescriptor yX3_count.desc).map (fun d => d.parameters.length) = some 1 := by decide +kernel
theorem kv_X3_count : yX3_count.cls = RX3 ∧ yX3_count.cls ≠ "java/lang/invoke/MethodHandle" ∧ yX3_count.cls ≠ "java/lang/invoke/VarHandle" ∧ (parseMethodDescriptor yX3_count.desc).map (fun d => d.parameters.length) = some 1 := by decide +kernel
theorem k0_X4_count : yX4_count.cls ≠ "java/lang/invoke/MethodHandle" ∧ yX4_count.cls ≠ "java/lang/invoke/VarHandle" ∧ (parseMethodDescriptor yX4_count.desc).map (fun d => d.parameters.length) = some 1 := by decide +kernel
theorem kv_X4_count : yX4_count.cls = RX4 ∧ yX4_count.cls ≠ "java/lang/invoke/MethodHandle" ∧ yX4_count.cls ≠ "java/lang/invoke/VarHandle" ∧ (parseMethodDescriptor yX4_count.desc).map (fun d => d.parameters.length) = some 1 := by decide +kernel
theorem k0_X3_clear : yX3_clear.cls ≠ "java/lang/invoke/MethodHandle" ∧ yX3_clear.cls ≠ "java/lang/invoke/VarHandle" ∧ (parseMethodDescriptor yX3_clear.desc).map (fun d => d.parameters.length) = some 0 := by decide +kernel
theorem kv_X3_clear : yX3_clear.cls = RX3 ∧ yX3_clear.cls ≠ "java/lang/invoke/MethodHandle" ∧ yX3_clear.cls ≠ "java/lang/invoke/VarHandle" ∧ (parseMethodDescriptor yX3_clear.desc).map (fun d => d.parameters.length) = some 0 := by decide +kernel
theorem k0_X4_clear : yX4_clear.cls ≠ "java/lang/invoke/MethodHandle" ∧ yX4_clear.cls ≠ "java/lang/invoke/VarHandle" ∧ (parseMethodDescriptor yX4_clear.desc).map (fun d => d.parameters.length) = some 0 := by decide +kernel
theorem kv_X4_clear : yX4_clear.cls = RX4 ∧ yX4_clear.cls ≠ "java/lang/invoke/MethodHandle" ∧ yX4_clear.cls ≠ "java/lang/invoke/VarHandle" ∧ (parseMethodDescriptor yX4_clear.desc).map (fun d => d.parameters.length) = some 0 := by decide +kernel
theorem k0_X0_has : yX0_has.cls ≠ "java/lang/invoke/MethodHandle" ∧ yX0_has.cls ≠ "java/lang/invoke/VarHandle" ∧ (parseMethodDescriptor yX0_has.desc).map (fun d => d.parameters.length) = some 1 := by decide +kernel
theorem kv_X0_has : yX0_has.cls = RX0 ∧ yX0_has.cls ≠ "java/lang/invoke/MethodHandle" ∧ yX0_has.cls ≠ "java/lang/invoke/VarHandle" ∧ (parseMethodDescriptor yX0_has.desc).map (fun d => d.parameters.length) = some 1 := by decide +kernel
theorem k0_X0_add : yX0_add.cls ≠ "java/lang/invoke/MethodHandle" ∧ yX0_add.cls ≠ "java/lang/invoke/VarHandle" ∧ (parseMethodDescriptor yX0_add.desc).map (fun d => d.parameters.length) = some 4 := by decide +kernel
theorem kv_X0_add : yX0_add.cls = RX0 ∧ yX0_add.cls ≠ "java/lang/invoke/MethodHandle" ∧ yX0_add.cls ≠ "java/lang/invoke/VarHandle" ∧ (parseMethodDescriptor yX0_add.desc).map (fun d => d.parameters.length) = some 4 := by decide +kernel
theorem k0_X0_failed : yX0_failed.cls ≠ "java/lang/invoke/MethodHandle" ∧ yX0_failed.cls ≠ "java/lang/invoke/VarHandle" ∧ (parseMethodDescriptor yX0_failed.desc).map (fun d => d.parameters.length) = some 0 := by decide +kernel
theorem kv_X0_failed : yX0_failed.cls = RX0 ∧ yX0_failed.cls ≠ "java/lang/invoke/MethodHandle" ∧ yX0_failed.cls ≠ "java/lang/invoke/VarHandle" ∧ (parseMethodDescriptor yX0_failed.desc).map (fun d => d.parameters.length) = some 0 := by decide +kernel
theorem k0_J7_fill_53178 : yJ7_fill_53178.cls ≠ "java/lang/invoke/MethodHandle" ∧ yJ7_fill_53178.cls ≠ "java/lang/invoke/VarHandle" ∧ (parseMethodDescriptor yJ7_fill_53178.desc).map (fun d => d.parameters.length) = some 2 := by decide +kernel
theorem kv_J7_fill_53178 : yJ7_fill_53178.cls = RJ7 ∧ yJ7_fill_53178.cls ≠ "java/lang/invoke/MethodHandle" ∧ yJ7_fill_53178.cls ≠ "java/lang/invoke/VarHandle" ∧ (parseMethodDescriptor yJ7_fill_53178.desc).map (fun d => d.parameters.length) = some 2 := by decide +kernel
theorem k0_X1_forget : yX1_forget.cls ≠ "java/lang/invoke/MethodHandle" ∧ yX1_forget.cls ≠ "java/lang/invoke/VarHandle" ∧ (parseMethodDescriptor yX1_forget.desc).map (fun d => d.parameters.length) = some 0 := by decide +kernel
theorem kv_X1_forget : yX1_forget.cls = RX1 ∧ yX1_forget.cls ≠ "java/lang/invoke/MethodHandle" ∧ yX1_forget.cls ≠ "java/lang/invoke/VarHandle" ∧ (parseMethodDescriptor yX1_forget.desc).map (fun d => d.parameters.length) = some 0 := by decide +kernel
theorem k0_X1_isState : yX1_isState.cls ≠ "java/lang/invoke/MethodHandle" ∧ yX1_isState.cls ≠ "java/lang/invoke/VarHandle" ∧ (parseMethodDescriptor yX1_isState.desc).map (fun d => d.parameters.length) = some 1 := by decide +kernel
theorem kv_X1_isState : yX1_isState.cls = RX1 ∧ yX1_isState.cls ≠ "java/lang/invoke/MethodHandle" ∧ yX1_isState.cls ≠ "java/lang/invoke/VarHandle" ∧ (parseMethodDescriptor yX1_isState.desc).map (fun d => d.parameters.length) = some 1 := by decide +kernel
theorem k0_X1_isSymbol : yX1_isSymbol.cls ≠ "java/lang/invoke/MethodHandle" ∧ yX1_isSymbol.cls ≠ "java/lang/invoke/VarHandle" ∧ (parseMethodDescriptor yX1_isSymbol.desc).map (fun d => d.parameters.length) = some 1 := by decide +kernel
theorem kv_X1_isSymbol : yX1_isSymbol.cls = RX1 ∧ yX1_isSymbol.cls ≠ "java/lang/invoke/MethodHandle" ∧ yX1_isSymbol.cls ≠ "java/lang/invoke/VarHandle" ∧ (parseMethodDescriptor yX1_isSymbol.desc).map (fun d => d.parameters.length) = some 1 := by decide +kernel
theorem k0_X2_canReplace : yX2_canReplace.cls ≠ "java/lang/invoke/MethodHandle" ∧ yX2_canReplace.cls ≠ "java/lang/invoke/VarHandle" ∧ (parseMethodDescriptor yX2_canReplace.desc).map (fun d => d.parameters.length) = some 3 := by decide +kernel
theorem kv_X2_canReplace : yX2_canReplace.cls = RX2 ∧ yX2_canReplace.cls ≠ "java/lang/invoke/MethodHandle" ∧ yX2_canReplace.cls ≠ "java/lang/invoke/VarHandle" ∧ (parseMethodDescriptor yX2_canReplace.desc).map (fun d => d.parameters.length) = some 3 := by decide +kernel
theorem k0_X3_unpack : yX3_unpack.cls ≠ "java/lang/invoke/MethodHandle" ∧ yX3_unpack.cls ≠ "java/lang/invoke/VarHandle" ∧ (parseMethodDescriptor yX3_unpack.desc).map (fun d => d.parameters.length) = some 3 := by decide +kernel
theorem kv_X3_unpack : yX3_unpack.cls = RX3 ∧ yX3_unpack.cls ≠ "java/lang/invoke/MethodHandle" ∧ yX3_unpack.cls ≠ "java/lang/invoke/VarHandle" ∧ (parseMethodDescriptor yX3_unpack.desc).map (fun d => d.parameters.length) = some 3 := by decide +kernel
theorem k0_X2_isEmpty : yX2_isEmpty.cls ≠ "java/lang/invoke/MethodHandle" ∧ yX2_isEmpty.cls ≠ "java/lang/invoke/VarHandle" ∧ (parseMethodDescriptor yX2_isEmpty.desc).map (fun d => d.parameters.length) = some 0 := by decide +kernel
theorem kv_X2_isEmpty : yX2_isEmpty.cls = RX2 ∧ yX2_isEmpty.cls ≠ "java/lang/invoke/MethodHandle" ∧ yX2_isEmpty.cls ≠ "java/lang/invoke/VarHandle" ∧ (parseMethodDescriptor yX2_isEmpty.desc).map (fun d => d.parameters.length) = some 0 := by decide +kernel
theorem k0_X1_setArrow : yX1_setArrow.cls ≠ "java/lang/invoke/MethodHandle" ∧ yX1_setArrow.cls ≠ "java/lang/invoke/VarHandle" ∧ (parseMethodDescriptor yX1_setArrow.desc).map (fun d => d.parameters.length) = some 3 := by decide +kernel
theorem kv_X1_setArrow : yX1_setArrow.cls = RX1 ∧ yX1_setArrow.cls ≠ "java/lang/invoke/MethodHandle" ∧ yX1_setArrow.cls ≠ "java/lang/invoke/VarHandle" ∧ (parseMethodDescriptor yX1_setArrow.desc).map (fun d => d.parameters.length) = some 3 := by decide +kernel
theorem k0_X0_tokens : yX0_tokens.cls ≠ "java/lang/invoke/MethodHandle" ∧ yX0_tokens.cls ≠ "java/lang/invoke/VarHandle" ∧ (parseMethodDescriptor yX0_tokens.desc).map (fun d => d.parameters.length) = some 0 := by decide +kernel
theorem kv_X0_tokens : yX0_tokens.cls = RX0 ∧ yX0_tokens.cls ≠ "java/lang/invoke/MethodHandle" ∧ yX0_tokens.cls ≠ "java/lang/invoke/VarHandle" ∧ (parseMethodDescriptor yX0_tokens.desc).map (fun d => d.parameters.length) = some 0 := by decide +kernel
theorem k0_X2_forget : yX2_forget.cls ≠ "java/lang/invoke/MethodHandle" ∧ yX2_forget.cls ≠ "java/lang/invoke/VarHandle" ∧ (parseMethodDescriptor yX2_forget.desc).map (fun d => d.parameters.length) = some 0 := by decide +kernel
theorem kv_X2_forget : yX2_forget.cls = RX2 ∧ yX2_forget.cls ≠ "java/lang/invoke/MethodHandle" ∧ yX2_forget.cls ≠ "java/lang/invoke/VarHandle" ∧ (parseMethodDescriptor yX2_forget.desc).map (fun d => d.parameters.length) = some 0 := by decide +kernel
theorem k0_X0_forget : yX0_forget.cls ≠ "java/lang/invoke/MethodHandle" ∧ yX0_forget.cls ≠ "java/lang/invoke/VarHandle" ∧ (parseMethodDescriptor yX0_forget.desc).map (fun d => d.parameters.length) = some 0 := by decide +kernel
theorem kv_X0_forget : yX0_forget.cls = RX0 ∧ yX0_forget.cls ≠ "java/lang/invoke/MethodHandle" ∧ yX0_forget.cls ≠ "java/lang/invoke/VarHandle" ∧ (parseMethodDescriptor yX0_forget.desc).map (fun d => d.parameters.length) = some 0 := by decide +kernel
theorem k0_X2_size : yX2_size.cls ≠ "java/lang/invoke/MethodHandle" ∧ yX2_size.cls ≠ "java/lang/invoke/VarHandle" ∧ (parseMethodDescriptor yX2_size.desc).map (fun d => d.parameters.length) = some 0 := by decide +kernel
theorem kv_X2_size : yX2_size.cls = RX2 ∧ yX2_size.cls ≠ "java/lang/invoke/MethodHandle" ∧ yX2_size.cls ≠ "java/lang/invoke/VarHandle" ∧ (parseMethodDescriptor yX2_size.desc).map (fun d => d.parameters.length) = some 0 := by decide +kernel
theorem k0_X0_begin : yX0_begin.cls ≠ "java/lang/invoke/MethodHandle" ∧ yX0_begin.cls ≠ "java/lang/invoke/VarHandle" ∧ (parseMethodDescriptor yX0_begin.desc).map (fun d => d.parameters.length) = some 1 := by decide +kernel
theorem kv_X0_begin : yX0_begin.cls = RX0 ∧ yX0_begin.cls ≠ "java/lang/invoke/MethodHandle" ∧ yX0_begin.cls ≠ "java/lang/invoke/VarHandle" ∧ (parseMethodDescriptor yX0_begin.desc).map (fun d => d.parameters.length) = some 1 := by decide +kernel
theorem k0_X0_looked : yX0_looked.cls ≠ "java/lang/invoke/MethodHandle" ∧ yX0_looked.cls ≠ "java/lang/invoke/VarHandle" ∧ (parseMethodDescriptor yX0_looked.desc).map (fun d => d.parameters.length) = some 1 := by decide +kernel
theorem kv_X0_looked : yX0_looked.cls = RX0 ∧ yX0_looked.cls ≠ "java/lang/invoke/MethodHandle" ∧ yX0_looked.cls ≠ "java/lang/invoke/VarHandle" ∧ (parseMethodDescriptor yX0_looked.desc).map (fun d => d.parameters.length) = some 1 := by decide +kernel
theorem k0_X3_areSymbols : yX3_areSymbols.cls ≠ "java/lang/invoke/MethodHandle" ∧ yX3_areSymbols.cls ≠ "java/lang/invoke/VarHandle" ∧ (parseMethodDescriptor yX3_areSymbols.desc).map (fun d => d.parameters.length) = some 2 := by decide +kernel
theorem kv_X3_areSymbols : yX3_areSymbols.cls = RX3 ∧ yX3_areSymbols.cls ≠ "java/lang/invoke/MethodHandle" ∧ yX3_areSymbols.cls ≠ "java/lang/invoke/VarHandle" ∧ (parseMethodDescriptor yX3_areSymbols.desc).map (fun d => d.parameters.length) = some 2 := by decide +kernel
theorem k0_X0_firstThatLookedAt : yX0_firstThatLookedAt.cls ≠ "java/lang/invoke/MethodHandle" ∧ yX0_firstThatLookedAt.cls ≠ "java/lang/invoke/VarHandle" ∧ (parseMethodDescriptor yX0_firstThatLookedAt.desc).map (fun d => d.parameters.length) = some 1 := by decide +kernel
theorem kv_X0_firstThatLookedAt : yX0_firstThatLookedAt.cls = RX0 ∧ yX0_firstThatLookedAt.cls ≠ "java/lang/invoke/MethodHandle" ∧ yX0_firstThatLookedAt.cls ≠ "java/lang/invoke/VarHandle" ∧ (parseMethodDescriptor yX0_firstThatLookedAt.desc).map (fun d => d.parameters.length) = some 1 := by decide +kernel
theorem k0_X0_size : yX0_size.cls ≠ "java/lang/invoke/MethodHandle" ∧ yX0_size.cls ≠ "java/lang/invoke/VarHandle" ∧ (parseMethodDescriptor yX0_size.desc).map (fun d => d.parameters.length) = some 0 := by decide +kernel
theorem kv_X0_size : yX0_size.cls = RX0 ∧ yX0_size.cls ≠ "java/lang/invoke/MethodHandle" ∧ yX0_size.cls ≠ "java/lang/invoke/VarHandle" ∧ (parseMethodDescriptor yX0_size.desc).map (fun d => d.parameters.length) = some 0 := by decide +kernel
theorem k0_X2_replace : yX2_replace.cls ≠ "java/lang/invoke/MethodHandle" ∧ yX2_replace.cls ≠ "java/lang/invoke/VarHandle" ∧ (parseMethodDescriptor yX2_replace.desc).map (fun d => d.parameters.length) = some 4 := by decide +kernel
theorem kv_X2_replace : yX2_replace.cls = RX2 ∧ yX2_replace.cls ≠ "java/lang/invoke/MethodHandle" ∧ yX2_replace.cls ≠ "java/lang/invoke/VarHandle" ∧ (parseMethodDescriptor yX2_replace.desc).map (fun d => d.parameters.length) = some 4 := by decide +kernel
theorem k0_X3_scanAnew : yX3_scanAnew.cls ≠ "java/lang/invoke/MethodHandle" ∧ yX3_scanAnew.cls ≠ "java/lang/invoke/VarHandle" ∧ (parseMethodDescriptor yX3_scanAnew.desc).map (fun d => d.parameters.length) = some 3 := by decide +kernel
theorem kv_X3_scanAnew : yX3_scanAnew.cls = RX3 ∧ yX3_scanAnew.cls ≠ "java/lang/invoke/MethodHandle" ∧ yX3_scanAnew.cls ≠ "java/lang/invoke/VarHandle" ∧ (parseMethodDescriptor yX3_scanAnew.desc).map (fun d => d.parameters.length) = some 3 := by decide +kernel
theorem k0_X1_init : yX1_init.cls ≠ "java/lang/invoke/MethodHandle" ∧ yX1_init.cls ≠ "java/lang/invoke/VarHandle" ∧ (parseMethodDescriptor yX1_init.desc).map (fun d => d.parameters.length) = some 0 := by decide +kernel
theorem kv_X1_init : yX1_init.cls = RX1 ∧ yX1_init.cls ≠ "java/lang/invoke/MethodHandle" ∧ yX1_init.cls ≠ "java/lang/invoke/VarHandle" ∧ (parseMethodDescriptor yX1_init.desc).map (fun d => d.parameters.length) = some 0 := by decide +kernel
theorem k0_X2_init : yX2_init.cls ≠ "java/lang/invoke/MethodHandle" ∧ yX2_init.cls ≠ "java/lang/invoke/VarHandle" ∧ (parseMethodDescriptor yX2_init.desc).map (fun d => d.parameters.length) = some 0 := by decide +kernel
theorem kv_X2_init : yX2_init.cls = RX2 ∧ yX2_init.cls ≠ "java/lang/invoke/MethodHandle" ∧ yX2_init.cls ≠ "java/lang/invoke/VarHandle" ∧ (parseMethodDescriptor yX2_init.desc).map (fun d => d.parameters.length) = some 0 := by decide +kernel
theorem k0_X0_init : yX0_init.cls ≠ "java/lang/invoke/MethodHandle" ∧ yX0_init.cls ≠ "java/lang/invoke/VarHandle" ∧ (parseMethodDescriptor yX0_init.desc).map (fun d => d.parameters.length) = some 0 := by decide +kernel
theorem kv_X0_init : yX0_init.cls = RX0 ∧ yX0_init.cls ≠ "java/lang/invoke/MethodHandle" ∧ yX0_init.cls ≠ "java/lang/invoke/VarHandle" ∧ (parseMethodDescriptor yX0_init.desc).map (fun d => d.parameters.length) = some 0 := by decide +kernel
theorem k0_X1_setKind : yX1_setKind.cls ≠ "java/lang/invoke/MethodHandle" ∧ yX1_setKind.cls ≠ "java/lang/invoke/VarHandle" ∧ (parseMethodDescriptor yX1_setKind.desc).map (fun d => d.parameters.length) = some 2 := by decide +kernel
theorem kv_X1_setKind : yX1_setKind.cls = RX1 ∧ yX1_setKind.cls ≠ "java/lang/invoke/MethodHandle" ∧ yX1_setKind.cls ≠ "java/lang/invoke/VarHandle" ∧ (parseMethodDescriptor yX1_setKind.desc).map (fun d => d.parameters.length) = some 2 := by decide +kernel
theorem k0_X0_takeUpTo : yX0_takeUpTo.cls ≠ "java/lang/invoke/MethodHandle" ∧ yX0_takeUpTo.cls ≠ "java/lang/invoke/VarHandle" ∧ (parseMethodDescriptor yX0_takeUpTo.desc).map (fun d => d.parameters.length) = some 2 := by decide +kernel
theorem kv_X0_takeUpTo : yX0_takeUpTo.cls = RX0 ∧ yX0_takeUpTo.cls ≠ "java/lang/invoke/MethodHandle" ∧ yX0_takeUpTo.cls ≠ "java/lang/invoke/VarHandle" ∧ (parseMethodDescriptor yX0_takeUpTo.desc).map (fun d => d.parameters.length) = some 2 := by decide +kernel
theorem k0_X0_nextBegin : yX0_nextBegin.cls ≠ "java/lang/invoke/MethodHandle" ∧ yX0_nextBegin.cls ≠ "java/lang/invoke/VarHandle" ∧ (parseMethodDescriptor yX0_nextBegin.desc).map (fun d => d.parameters.length) = some 0 := by decide +kernel
theorem kv_X0_nextBegin : yX0_nextBegin.cls = RX0 ∧ yX0_nextBegin.cls ≠ "java/lang/invoke/MethodHandle" ∧ yX0_nextBegin.cls ≠ "java/lang/invoke/VarHandle" ∧ (parseMethodDescriptor yX0_nextBegin.desc).map (fun d => d.parameters.length) = some 0 := by decide +kernel
theorem k0_X0_firstFrom : yX0_firstFrom.cls ≠ "java/lang/invoke/MethodHandle" ∧ yX0_firstFrom.cls ≠ "java/lang/invoke/VarHandle" ∧ (parseMethodDescriptor yX0_firstFrom.desc).map (fun d => d.parameters.length) = some 2 := by decide +kernel
theorem kv_X0_firstFrom : yX0_firstFrom.cls = RX0 ∧ yX0_firstFrom.cls ≠ "java/lang/invoke/MethodHandle" ∧ yX0_firstFrom.cls ≠ "java/lang/invoke/VarHandle" ∧ (parseMethodDescriptor yX0_firstFrom.desc).map (fun d => d.parameters.length) = some 2 := by decide +kernel
theorem k0_X0_takeMoved : yX0_takeMoved.cls ≠ "java/lang/invoke/MethodHandle" ∧ yX0_takeMoved.cls ≠ "java/lang/invoke/VarHandle" ∧ (parseMethodDescriptor yX0_takeMoved.desc).map (fun d => d.parameters.length) = some 3 := by decide +kernel
theorem kv_X0_takeMoved : yX0_takeMoved.cls = RX0 ∧ yX0_takeMoved.cls ≠ "java/lang/invoke/MethodHandle" ∧ yX0_takeMoved.cls ≠ "java/lang/invoke/VarHandle" ∧ (parseMethodDescriptor yX0_takeMoved.desc).map (fun d => d.parameters.length) = some 3 := by decide +kernel
theorem k0_X3_scanOne : yX3_scanOne.cls ≠ "java/lang/invoke/MethodHandle" ∧ yX3_scanOne.cls ≠ "java/lang/invoke/VarHandle" ∧ (parseMethodDescriptor yX3_scanOne.desc).map (fun d => d.parameters.length) = some 1 := by decide +kernel
theorem kv_X3_scanOne : yX3_scanOne.cls = RX3 ∧ yX3_scanOne.cls ≠ "java/lang/invoke/MethodHandle" ∧ yX3_scanOne.cls ≠ "java/lang/invoke/VarHandle" ∧ (parseMethodDescriptor yX3_scanOne.desc).map (fun d => d.parameters.length) = some 1 := by decide +kernel
theorem k0_X2_at : yX2_at.cls ≠ "java/lang/invoke/MethodHandle" ∧ yX2_at.cls ≠ "java/lang/invoke/VarHandle" ∧ (parseMethodDescriptor yX2_at.desc).map (fun d => d.parameters.length) = some 1 := by decide +kernel
theorem kv_X2_at : yX2_at.cls = RX2 ∧ yX2_at.cls ≠ "java/lang/invoke/MethodHandle" ∧ yX2_at.cls ≠ "java/lang/invoke/VarHandle" ∧ (parseMethodDescriptor yX2_at.desc).map (fun d => d.parameters.length) = some 1 := by decide +kernel
theorem k0_X1_next : yX1_next.cls ≠ "java/lang/invoke/MethodHandle" ∧ yX1_next.cls ≠ "java/lang/invoke/VarHandle" ∧ (parseMethodDescriptor yX1_next.desc).map (fun d => d.parameters.length) = some 2 := by decide +kernel
theorem kv_X1_next : yX1_next.cls = RX1 ∧ yX1_next.cls ≠ "java/lang/invoke/MethodHandle" ∧ yX1_next.cls ≠ "java/lang/invoke/VarHandle" ∧ (parseMethodDescriptor yX1_next.desc).map (fun d => d.parameters.length) = some 2 := by decide +kernel
theorem k0_X1_kindOf : yX1_kindOf.cls ≠ "java/lang/invoke/MethodHandle" ∧ yX1_kindOf.cls ≠ "java/lang/invoke/VarHandle" ∧ (parseMethodDescriptor yX1_kindOf.desc).map (fun d => d.parameters.length) = some 1 := by decide +kernel
theorem kv_X1_kindOf : yX1_kindOf.cls = RX1 ∧ yX1_kindOf.cls ≠ "java/lang/invoke/MethodHandle" ∧ yX1_kindOf.cls ≠ "java/lang/invoke/VarHandle" ∧ (parseMethodDescriptor yX1_kindOf.desc).map (fun d => d.parameters.length) = some 1 := by decide +kernel
theorem k0_X0_length : yX0_length.cls ≠ "java/lang/invoke/MethodHandle" ∧ yX0_length.cls ≠ "java/lang/invoke/VarHandle" ∧ (parseMethodDescriptor yX0_length.desc).map (fun d => d.parameters.length) = some 1 := by decide +kernel
theorem kv_X0_length : yX0_length.cls = RX0 ∧ yX0_length.cls ≠ "java/lang/invoke/MethodHandle" ∧ yX0_length.cls ≠ "java/lang/invoke/VarHandle" ∧ (parseMethodDescriptor yX0_length.desc).map (fun d => d.parameters.length) = some 1 := by decide +kernel
theorem k0_X0_kindFound : yX0_kindFound.cls ≠ "java/lang/invoke/MethodHandle" ∧ yX0_kindFound.cls ≠ "java/lang/invoke/VarHandle" ∧ (parseMethodDescriptor yX0_kindFound.desc).map (fun d => d.parameters.length) = some 1 := by decide +kernel
theorem kv_X0_kindFound : yX0_kindFound.cls = RX0 ∧ yX0_kindFound.cls ≠ "java/lang/invoke/MethodHandle" ∧ yX0_kindFound.cls ≠ "java/lang/invoke/VarHandle" ∧ (parseMethodDescriptor yX0_kindFound.desc).map (fun d => d.parameters.length) = some 1 := by decide +kernel
theorem k0_X0_tokenAround : yX0_tokenAround.cls ≠ "java/lang/invoke/MethodHandle" ∧ yX0_tokenAround.cls ≠ "java/lang/invoke/VarHandle" ∧ (parseMethodDescriptor yX0_tokenAround.desc).map (fun d => d.parameters.length) = some 1 := by decide +kernel
theorem kv_X0_tokenAround : yX0_tokenAround.cls = RX0 ∧ yX0_tokenAround.cls ≠ "java/lang/invoke/MethodHandle" ∧ yX0_tokenAround.cls ≠ "java/lang/invoke/VarHandle" ∧ (parseMethodDescriptor yX0_tokenAround.desc).map (fun d => d.parameters.length) = some 1 := by decide +kernel
theorem k0_X4_forget : yX4_forget.cls ≠ "java/lang/invoke/MethodHandle" ∧ yX4_forget.cls ≠ "java/lang/invoke/VarHandle" ∧ (parseMethodDescriptor yX4_forget.desc).map (fun d => d.parameters.length) = some 0 := by decide +kernel
theorem kv_X4_forget : yX4_forget.cls = RX4 ∧ yX4_forget.cls ≠ "java/lang/invoke/MethodHandle" ∧ yX4_forget.cls ≠ "java/lang/invoke/VarHandle" ∧ (parseMethodDescriptor yX4_forget.desc).map (fun d => d.parameters.length) = some 0 := by decide +kernel
theorem k0_X4_change : yX4_change.cls ≠ "java/lang/invoke/MethodHandle" ∧ yX4_change.cls ≠ "java/lang/invoke/VarHandle" ∧ (parseMethodDescriptor yX4_change.desc).map (fun d => d.parameters.length) = some 4 := by decide +kernel
theorem kv_X4_change : yX4_change.cls = RX4 ∧ yX4_change.cls ≠ "java/lang/invoke/MethodHandle" ∧ yX4_change.cls ≠ "java/lang/invoke/VarHandle" ∧ (parseMethodDescriptor yX4_change.desc).map (fun d => d.parameters.length) = some 4 := by decide +kernel
theorem k0_X4_goOver : yX4_goOver.cls ≠ "java/lang/invoke/MethodHandle" ∧ yX4_goOver.cls ≠ "java/lang/invoke/VarHandle" ∧ (parseMethodDescriptor yX4_goOver.desc).map (fun d => d.parameters.length) = some 4 := by decide +kernel
theorem kv_X4_goOver : yX4_goOver.cls = RX4 ∧ yX4_goOver.cls ≠ "java/lang/invoke/MethodHandle" ∧ yX4_goOver.cls ≠ "java/lang/invoke/VarHandle" ∧ (parseMethodDescriptor yX4_goOver.desc).map (fun d => d.parameters.length) = some 4 := by decide +kernel
theorem k0_X4_scanAll : yX4_scanAll.cls ≠ "java/lang/invoke/MethodHandle" ∧ yX4_scanAll.cls ≠ "java/lang/invoke/VarHandle" ∧ (parseMethodDescriptor yX4_scanAll.desc).map (fun d => d.parameters.length) = some 0 := by decide +kernel
theorem kv_X4_scanAll : yX4_scanAll.cls = RX4 ∧ yX4_scanAll.cls ≠ "java/lang/invoke/MethodHandle" ∧ yX4_scanAll.cls ≠ "java/lang/invoke/VarHandle" ∧ (parseMethodDescriptor yX4_scanAll.desc).map (fun d => d.parameters.length) = some 0 := by decide +kernel
theorem k0_X4_began : yX4_began.cls ≠ "java/lang/invoke/MethodHandle" ∧ yX4_began.cls ≠ "java/lang/invoke/VarHandle" ∧ (parseMethodDescriptor yX4_began.desc).map (fun d => d.parameters.length) = some 1 := by decide +kernel
theorem kv_X4_began : yX4_began.cls = RX4 ∧ yX4_began.cls ≠ "java/lang/invoke/MethodHandle" ∧ yX4_began.cls ≠ "java/lang/invoke/VarHandle" ∧ (parseMethodDescriptor yX4_began.desc).map (fun d => d.parameters.length) = some 1 := by decide +kernel
theorem k0_X4_scan : yX4_scan.cls ≠ "java/lang/invoke/MethodHandle" ∧ yX4_scan.cls ≠ "java/lang/invoke/VarHandle" ∧ (parseMethodDescriptor yX4_scan.desc).map (fun d => d.parameters.length) = some 1 := by decide +kernel
theorem kv_X4_scan : yX4_scan.cls = RX4 ∧ yX4_scan.cls ≠ "java/lang/invoke/MethodHandle" ∧ yX4_scan.cls ≠ "java/lang/invoke/VarHandle" ∧ (parseMethodDescriptor yX4_scan.desc).map (fun d => d.parameters.length) = some 1 := by decide +kernel
