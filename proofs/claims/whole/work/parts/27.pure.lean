-- ===== class and model side by side =====
def es_inv (ar ki tx mx : Nat → Int32) (n : Nat) (F : Nat → Nat → Int32) (cc : Nat) (M : Nat → Nat → Int32) (tn : Nat) (fl fk : Int32) : Prop := n ≤ 400 ∧ es_ta ar ∧ es_tk2 ki ∧ es_tt tx n ∧ (∀ j, j < n → mx j = tx j) ∧ es_fnd ar ki (es_lk tx n) F cc ∧ es_mdl ar ki (es_lk tx n) n cc M tn fl fk
theorem es_lk_eq {tx mx : Nat → Int32} {n : Nat} (h : ∀ j, j < n → mx j = tx j) : es_lk mx n = es_lk tx n := by
  funext j
  unfold es_lk
  by_cases hj : j < n
  · rw [if_pos hj, if_pos hj, h j hj]
  · rw [if_neg hj, if_neg hj]
theorem es_cnt_0 {Le : Nat → Nat} : es_cnt Le 0 0 := ⟨fun i h => absurd h (Nat.not_lt_zero _), fun i h => absurd h (Nat.not_lt_zero _), Or.inl ⟨rfl, rfl⟩⟩
theorem es_inv_mk0 {ar ki tx mx : Nat → Int32} {F M : Nat → Nat → Int32} (h1 : es_ta ar) (h2 : es_tk2 ki) : es_inv ar ki tx mx 0 F 0 M 0 (-1) (nI 0) :=
  ⟨by omega, h1, h2, fun j h => absurd h (Nat.not_lt_zero _), fun j h => absurd h (Nat.not_lt_zero _), fun i h => absurd h (Nat.not_lt_zero _), es_cnt_0, fun i h => absurd h (Nat.not_lt_zero _), by unfold es_tn; rw [if_neg (fun h => absurd h.1 (Nat.lt_irrefl 0))], Or.inr ⟨rfl, rfl, rfl⟩⟩
theorem es_inv_0 {ar ki tx mx : Nat → Int32} {F M : Nat → Nat → Int32} {cc tn : Nat} {fl fk : Int32} (h : es_inv ar ki tx mx 0 F cc M tn fl fk) : cc = 0 ∧ tn = 0 ∧ fl = -1 ∧ fk = nI 0 := by
  obtain ⟨-, -, -, -, -, -, hc, -, -, h2⟩ := h
  have h3 := es_cnt_n hc
  rcases h2 with ⟨h4, -⟩ | ⟨h4, h5, h6⟩
  · omega
  · exact ⟨by omega, by omega, h5, h6⟩
theorem es_ta_m : es_ta (fun _ => -1) := fun _ _ => Or.inl rfl
theorem es_tk_m : es_tk2 (fun _ => -1) := fun _ _ => Or.inl rfl
theorem es_two {P : Prop} {r r' : Int32} {α : Type} {u u' U V : α} (h : (r = nI 1 ∧ P ∧ u = U) ∨ (r = nI 0 ∧ ¬ P ∧ u = V)) (h' : (r' = nI 1 ∧ P ∧ u' = U) ∨ (r' = nI 0 ∧ ¬ P ∧ u' = V)) : r = r' ∧ u' = u := by
  rcases h with ⟨h1, h2, h3⟩ | ⟨h1, h2, h3⟩ <;> rcases h' with ⟨g1, g2, g3⟩ | ⟨g1, g2, g3⟩
  · exact ⟨h1.trans g1.symm, g3.trans h3.symm⟩
  · exact absurd h2 g2
  · exact absurd g2 h2
  · exact ⟨h1.trans g1.symm, g3.trans h3.symm⟩
theorem es_inv_arrow {ar ki tx mx u : Nat → Int32} {n : Nat} {F M : Nat → Nat → Int32} {cc tn : Nat} {fl fk x y z r : Int32} {j : Nat} (h : es_inv ar ki tx mx n F cc M tn fl fk) (hu : (r = nI 1 ∧ (n = 0 ∧ es_okA x y z) ∧ u = upd ar j z) ∨ (r = nI 0 ∧ ¬ (n = 0 ∧ es_okA x y z) ∧ u = ar)) : es_inv u ki tx mx n F cc M tn fl fk := by
  rcases hu with ⟨-, ⟨h0, hk⟩, rfl⟩ | ⟨-, -, rfl⟩
  · subst h0
    obtain ⟨rfl, rfl, rfl, rfl⟩ := es_inv_0 h
    refine es_inv_mk0 (fun i hi => ?_) h.2.2.1
    by_cases e : i = j
    · rw [e, pk_us]
      rcases hk.2.2 with h1 | h1
      · exact Or.inl h1
      · obtain ⟨q, hq, h2⟩ := es_nat h1.1 h1.2 (by decide)
        exact Or.inr ⟨q, hq, h2⟩
    · rw [pk_un e]; exact h.2.1 i hi
  · exact h
theorem es_m1n {y : Int32} (h1 : -1 ≤ y) (h2 : y < nI 100) : y = -1 ∨ ∃ q : Nat, q < 100 ∧ y = nI q := by
  by_cases h : 0 ≤ y
  · exact Or.inr (es_nat h h2 (by decide))
  · left
    simp only [Int32.lt_iff_toInt_lt, Int32.le_iff_toInt_le, ← Int32.toInt_inj, es_n0, es_nm] at h h1 ⊢
    omega
theorem es_inv_kind {ar ki tx mx u : Nat → Int32} {n : Nat} {F M : Nat → Nat → Int32} {cc tn : Nat} {fl fk x y r : Int32} {j : Nat} (h : es_inv ar ki tx mx n F cc M tn fl fk) (hu : (r = nI 1 ∧ (n = 0 ∧ es_okK x y) ∧ u = upd ki j y) ∨ (r = nI 0 ∧ ¬ (n = 0 ∧ es_okK x y) ∧ u = ki)) : es_inv ar u tx mx n F cc M tn fl fk := by
  rcases hu with ⟨-, ⟨h0, hk⟩, rfl⟩ | ⟨-, -, rfl⟩
  · subst h0
    obtain ⟨rfl, rfl, rfl, rfl⟩ := es_inv_0 h
    refine es_inv_mk0 h.2.1 (fun i hi => ?_)
    by_cases e : i = j
    · rw [e, pk_us]; exact es_m1n hk.2.1 hk.2.2
    · rw [pk_un e]; exact h.2.2.1 i hi
  · exact h
/-- the failure, as the class and as the model have it -/
theorem es_fail_iff {ar ki tx mx : Nat → Int32} {n : Nat} {F M : Nat → Nat → Int32} {cc tn : Nat} {fl fk : Int32} (h : es_inv ar ki tx mx n F cc M tn fl fk) : ((0 < cc ∧ F 1 (cc - 1) = 0) ↔ tn + 1 = cc) ∧ (0 < cc → es_B (es_Le ar ki (es_lk tx n)) (cc - 1) < n) := by
  obtain ⟨hn, -, -, -, -, hF, hc, -, ht, h2⟩ := h
  refine ⟨?_, fun h0 => hc.1 _ (by omega)⟩
  have key : 0 < cc → (F 1 (cc - 1) = 0 ↔ es_Le ar ki (es_lk tx n) (es_B (es_Le ar ki (es_lk tx n)) (cc - 1)) = 0) := fun h0 => by
    rw [(hF (cc - 1) (by omega)).2.1]
    have hl := (es_Le_lt (ar := ar) (ki := ki) (lk := es_lk tx n) (b := es_B (es_Le ar ki (es_lk tx n)) (cc - 1)) (e := n - es_B (es_Le ar ki (es_lk tx n)) (cc - 1)) (es_lk_end (by omega)) (by omega)).2
    exact ⟨fun z => (nI_eq (by omega) (by omega)).mp (z.trans nI_0.symm), fun z => by rw [z]; rfl⟩
  unfold es_tn at ht
  constructor
  · intro ⟨h0, h1⟩
    rw [if_pos ⟨h0, (key h0).mp h1⟩] at ht
    omega
  · intro h0
    have hp : 0 < cc := by omega
    refine ⟨hp, (key hp).mpr ?_⟩
    rcases Nat.eq_zero_or_pos (es_Le ar ki (es_lk tx n) (es_B (es_Le ar ki (es_lk tx n)) (cc - 1))) with h3 | h3
    · exact h3
    · rw [if_neg (fun z => by omega)] at ht; omega
theorem es_tk_tn {ar ki tx mx : Nat → Int32} {n : Nat} {F M : Nat → Nat → Int32} {cc tn : Nat} {fl fk : Int32} (h : es_inv ar ki tx mx n F cc M tn fl fk) : es_tk F cc = tn := by
  have h1 := (es_fail_iff h).1
  have h2 : tn + 1 = cc ∨ tn = cc := by rcases h.2.2.2.2.2.2.2.2.2 with ⟨h3, -⟩ | ⟨h3, -⟩ <;> omega
  unfold es_tk
  by_cases h3 : 0 < cc ∧ F 1 (cc - 1) = 0
  · rw [if_pos h3]; have := h1.mp h3; omega
  · rw [if_neg h3]
    rcases h2 with h4 | h4
    · exact absurd (h1.mpr h4) h3
    · omega
theorem es_rows {ar ki tx mx : Nat → Int32} {n : Nat} {F M : Nat → Nat → Int32} {cc tn : Nat} {fl fk : Int32} (h : es_inv ar ki tx mx n F cc M tn fl fk) {j : Nat} (hj : j < tn) : F 0 j = M 0 j ∧ F 1 j = M 1 j ∧ F 2 j = M 2 j ∧ F 3 j = M 3 j := by
  have htc : tn ≤ cc := by rcases h.2.2.2.2.2.2.2.2.2 with ⟨h3, -⟩ | ⟨h3, -⟩ <;> omega
  obtain ⟨a0, a1, a2, a3⟩ := h.2.2.2.2.2.1 j (by omega)
  obtain ⟨b0, b1, b2, b3⟩ := h.2.2.2.2.2.2.2.1 j hj
  exact ⟨a0.trans b0.symm, a1.trans b1.symm, a2.trans b2.symm, a3.trans b3.symm⟩
theorem es_tn_le {ar ki tx mx : Nat → Int32} {n : Nat} {F M : Nat → Nat → Int32} {cc tn : Nat} {fl fk : Int32} (h : es_inv ar ki tx mx n F cc M tn fl fk) : tn ≤ cc ∧ cc ≤ 400 ∧ tn ≤ 400 := by
  have h1 := es_cnt_n h.2.2.2.2.2.2.1
  have h2 := h.1
  rcases h.2.2.2.2.2.2.2.2.2 with ⟨h3, -⟩ | ⟨h3, -⟩ <;> omega
theorem es_token_eq {ar ki tx mx : Nat → Int32} {n : Nat} {F M : Nat → Nat → Int32} {cc tn : Nat} {fl fk x y : Int32} (h : es_inv ar ki tx mx n F cc M tn fl fk) : (if 0 ≤ x ∧ x < nI (es_tk F cc) then es_tw F y x else -1) = (if 0 ≤ x ∧ x < nI tn then es_tw M y x else -1) := by
  rw [es_tk_tn h]
  by_cases h1 : 0 ≤ x ∧ x < nI tn
  · rw [if_pos h1, if_pos h1]
    have h2 := es_tn_le h
    obtain ⟨j, hj, rfl⟩ := es_nat h1.1 h1.2 (by omega)
    obtain ⟨a0, a1, a2, a3⟩ := es_rows h hj
    unfold es_tw
    rw [nI_clamp (by omega), a0, a1, a2, a3]
  · rw [if_neg h1, if_neg h1]
theorem es_count_eq {ar ki tx mx : Nat → Int32} {n : Nat} {F M : Nat → Nat → Int32} {cc tn rd sc ed : Nat} {fl fk x : Int32} (h : es_inv ar ki tx mx n F cc M tn fl fk) : es_ct F cc n rd sc ed x = es_cm tn n fl fk rd sc ed x := by
  have h1 := (es_fail_iff h).1
  unfold es_ct es_cm
  rw [es_tk_tn h]
  rcases h.2.2.2.2.2.2.2.2.2 with ⟨h3, h4, h5⟩ | ⟨h3, h4, h5⟩
  · obtain ⟨a0, -, -, a3⟩ := h.2.2.2.2.2.1 tn (by omega)
    rw [if_pos (h1.mpr h3), if_pos (h1.mpr h3), show cc - 1 = tn by omega, a0, a3, h4, h5]
  · have h6 : ¬ (0 < cc ∧ F 1 (cc - 1) = 0) := fun z => by have := h1.mp z; omega
    rw [if_neg h6, if_neg h6, h4, h5]
    rfl
theorem es_symbol_eq {ar ki tx mx : Nat → Int32} {n : Nat} {F M : Nat → Nat → Int32} {cc tn : Nat} {fl fk x : Int32} (h : es_inv ar ki tx mx n F cc M tn fl fk) : (if 0 ≤ x ∧ x < nI n then tx x.toNatClampNeg else -1) = (if 0 ≤ x ∧ x < nI n then mx x.toNatClampNeg else -1) := by
  by_cases h1 : 0 ≤ x ∧ x < nI n
  · have h0 := h.1
    rw [if_pos h1, if_pos h1]
    obtain ⟨j, hj, rfl⟩ := es_nat h1.1 h1.2 (by omega)
    rw [nI_clamp (by omega), h.2.2.2.2.1 j hj]
  · rw [if_neg h1, if_neg h1]
/-- at most one token lies around a place -/
theorem es_around {ar ki tx mx : Nat → Int32} {n : Nat} {F M : Nat → Nat → Int32} {cc tn : Nat} {fl fk x : Int32} (h : es_inv ar ki tx mx n F cc M tn fl fk) : (∀ i, i < cc → (F 0 i ≤ x ∧ x < F 0 i + F 1 i) → i < tn) ∧ ∀ i j, i < cc → j < cc → (F 0 i ≤ x ∧ x < F 0 i + F 1 i) → (F 0 j ≤ x ∧ x < F 0 j + F 1 j) → i = j := by
  obtain ⟨hn, -, -, -, -, hF, hc, -, ht, h2⟩ := id h
  have hfi := (es_fail_iff h).1
  have key : ∀ i, i < cc → (F 0 i ≤ x ∧ x < F 0 i + F 1 i) → (es_B (es_Le ar ki (es_lk tx n)) i : Int) ≤ x.toInt ∧ x.toInt < (es_B (es_Le ar ki (es_lk tx n)) (i + 1) : Int) := by
    intro i hi ⟨h3, h4⟩
    obtain ⟨a0, a1, -, -⟩ := hF i hi
    have hb := hc.1 i hi
    have hl := (es_Le_lt (ar := ar) (ki := ki) (lk := es_lk tx n) (b := es_B (es_Le ar ki (es_lk tx n)) i) (e := n - es_B (es_Le ar ki (es_lk tx n)) i) (es_lk_end (by omega)) (by omega)).2
    rw [a0, Int32.le_iff_toInt_le, nI_toInt (by omega)] at h3
    rw [a0, a1, nI_add, Int32.lt_iff_toInt_lt, nI_toInt (by omega)] at h4
    rw [es_B]
    exact ⟨h3, h4⟩
  have mono : ∀ i j, i < j → j < cc → es_B (es_Le ar ki (es_lk tx n)) (i + 1) ≤ es_B (es_Le ar ki (es_lk tx n)) j := by
    intro i j hij hj
    by_cases e : i + 1 = j
    · rw [e]; exact Nat.le_refl _
    · exact Nat.le_of_lt (es_B_mono hc.2.1 (i + 1) j (by omega) hj)
  constructor
  · intro i hi h3
    rcases h2 with ⟨h4, -⟩ | ⟨h4, -⟩
    · by_cases e : i = cc - 1
      · exfalso
        have h5 := (hfi.mpr h4).2
        rw [e, h5] at h3
        have h6 : F 0 (cc - 1) + 0 = F 0 (cc - 1) := Int32.add_zero _
        rw [h6] at h3
        exact absurd h3.2 (Int32.not_lt.mpr h3.1)
      · omega
    · omega
  · intro i j hi hj h3 h4
    obtain ⟨k1, k2⟩ := key i hi h3
    obtain ⟨k3, k4⟩ := key j hj h4
    rcases Nat.lt_trichotomy i j with h5 | h5 | h5
    · have := mono i j h5 hj; omega
    · exact h5
    · have := mono j i h5 hi; omega
theorem es_tokenAt_eq {ar ki tx mx : Nat → Int32} {n : Nat} {F M : Nat → Nat → Int32} {cc tn : Nat} {fl fk x r r' : Int32} (h : es_inv ar ki tx mx n F cc M tn fl fk) (h1 : ∃ i : Nat, i ≤ cc ∧ (∀ j, j < i → ¬ (F 0 j ≤ x ∧ x < F 0 j + F 1 j)) ∧ ((i = cc ∧ r = -1) ∨ (i < cc ∧ (F 0 i ≤ x ∧ x < F 0 i + F 1 i) ∧ r = nI i)))
    (h2 : (r' = -1 ∧ ∀ j, j < tn → ¬ (M 0 j ≤ x ∧ x < M 0 j + M 1 j)) ∨ (∃ w : Nat, w < tn ∧ r' = nI w ∧ (M 0 w ≤ x ∧ x < M 0 w + M 1 w) ∧ ∀ j, w < j → j < tn → ¬ (M 0 j ≤ x ∧ x < M 0 j + M 1 j))) : r = r' := by
  obtain ⟨i, hi, h3, h4⟩ := h1
  obtain ⟨ha, hb⟩ := es_around (x := x) h
  have htc := (es_tn_le h).1
  have sw : ∀ j, j < tn → ((F 0 j ≤ x ∧ x < F 0 j + F 1 j) ↔ (M 0 j ≤ x ∧ x < M 0 j + M 1 j)) := fun j hj => by
    obtain ⟨a0, a1, -, -⟩ := es_rows h hj
    rw [a0, a1]
  rcases h4 with ⟨h5, h6⟩ | ⟨h5, h6, h7⟩
  · rcases h2 with ⟨h8, -⟩ | ⟨w, hw, -, h9, -⟩
    · rw [h6, h8]
    · exact absurd ((sw w hw).mpr h9) (h3 w (by omega))
  · have hit := ha i h5 h6
    rcases h2 with ⟨-, h9⟩ | ⟨w, hw, h8, h9, -⟩
    · exact absurd ((sw i hit).mp h6) (h9 i hit)
    · have e := hb i w h5 (by omega) h6 ((sw w hw).mpr h9)
      rw [h7, h8, e]
/-- both edits -/
theorem es_both {ar ki tx mx tx' mx' : Nat → Int32} {n n1 n2 : Nat} {F M F' M' : Nat → Nat → Int32} {cc tn c' tn' : Nat} {fl fk fl' fk' x y z : Int32} {sy : Int64} {T1 T2 : Nat × Nat} (h : es_inv ar ki tx mx n F cc M tn fl fk)
    (hc : es_cnt (es_Le ar ki (es_lk tx' n1)) n1 c') (hF : es_fnd ar ki (es_lk tx' n1) F' c') (hp : es_edP ar ki tx n cc x y sy z tx' n1 T1) (hm : ∃ c, es_mdl ar ki (es_lk mx' n2) n2 c M' tn' fl' fk') (hq : es_edP ar ki mx n cc x y sy z mx' n2 T2) : n2 = n1 ∧ T2 = T1 ∧ es_inv ar ki tx' mx' n1 F' c' M' tn' fl' fk' := by
  obtain ⟨hn, hta, htk, htt, hmx, -, -⟩ := h
  obtain ⟨pl, ou, cn, e1, e2, e3, p1, p2, p3, p4, p5, p6, p7⟩ := hp
  obtain ⟨pl', ou', cn', f1, f2, f3, q1, q2, q3, q4, q5, q6, q7⟩ := hq
  have g1 : pl' = pl := (nI_eq (by omega) (by omega)).mp (f1.symm.trans e1)
  have g2 : ou' = ou := (nI_eq (by omega) (by omega)).mp (f2.symm.trans e2)
  have g3 : cn' = cn := (nI_eq (by omega) (by omega)).mp (f3.symm.trans e3)
  subst g1; subst g2; subst g3
  have g4 : n2 = n1 := q3.trans p3.symm
  subst g4
  have hag : ∀ j, j < n2 → mx' j = tx' j := by
    intro j hj
    rcases Nat.lt_or_ge j pl' with h3 | h3
    · rw [q6.1 j h3, p6.1 j h3, hmx j (by omega)]
    · rcases Nat.lt_or_ge j (pl' + cn') with h5 | h5
      · have a := q6.2.1 (j - pl') (by omega)
        have b := p6.2.1 (j - pl') (by omega)
        rw [show pl' + (j - pl') = j by omega] at a b
        rw [a, b]
      · have a := q6.2.2 (j + ou' - cn') (by omega) (by omega)
        have b := p6.2.2 (j + ou' - cn') (by omega) (by omega)
        rw [show j + ou' - cn' - ou' + cn' = j by omega] at a b
        rw [a, b, hmx _ (by omega)]
  have hl := es_lk_eq hag
  obtain ⟨c2, hm⟩ := hm
  rw [hl] at hm
  rw [hl, es_lk_eq hmx] at q7
  have g5 : c2 = c' := es_cnt_eq hc hm.1
  subst g5
  have htt2 := es_tt_of htt p1 p6 p5
  rw [← p3] at htt2
  exact ⟨rfl, es_rs_eq q7 p7, p4, hta, htk, htt2, hag, hF, hm⟩
theorem es_l6 {L i : Nat} (hL : L ≤ 3072) (hi : i ≤ 4000) : nI L - nI 6 < nI i ↔ L < i + 6 := by
  rw [Int32.lt_iff_toInt_lt, pk_sub_toInt (by omega) (by omega), nI_toInt (by omega)]
  omega
theorem es_out8 {x : Int32} (h0 : ¬ x = 0) (h1 : ¬ x = 1) (h2 : ¬ x = 2) (h3 : ¬ x = 3) (h4 : ¬ x = 4) (h5 : ¬ x = 5) (h6 : ¬ x = 6) (h7 : ¬ x = 7) : x.toInt < 0 ∨ 7 < x.toInt := by
  have a0 := es_ne h0; have a1 := es_ne h1; have a2 := es_ne h2; have a3 := es_ne h3; have a4 := es_ne h4; have a5 := es_ne h5; have a6 := es_ne h6; have a7 := es_ne h7
  simp only [show (0 : Int32).toInt = 0 from rfl, show (1 : Int32).toInt = 1 from rfl, show (2 : Int32).toInt = 2 from rfl, show (3 : Int32).toInt = 3 from rfl, show (4 : Int32).toInt = 4 from rfl, show (5 : Int32).toInt = 5 from rfl, show (6 : Int32).toInt = 6 from rfl, show (7 : Int32).toInt = 7 from rfl] at a0 a1 a2 a3 a4 a5 a6 a7
  omega
section ESL
variable {p : Program} {l : Launch} {e : Env} {R : Room} {s : State} {m : MethodId} {args : Array Value} {below : List Frame} {meth : Method} {c : Code} {H : Heap} {locs : List Loc} {cells slots : Nat} {Q : State → Prop}
variable {cc : ByteArray} {pc : Nat} {ls : Array Slot} {rest : List Value} {A : Nat → Prop} {H0 : Heap}
/-- the script's int at a Nat -/
theorem es_sld (hexec : p.tables.exec = Jvm.exec) (hb : c.code = cc) {b L : Nat} {xs : Nat → Int32} (hX : va_X b L xs s H0) (hbl : b < H0.size) (hbA : ¬ A b) (hS : va_S A H0 H locs) {j : Nat} (hj : j < L) (hL : L < 2 ^ 31) (hdg : decode cc pc = .ok (.iaload, 1))
    (kk : W p l e R s m args below meth c H locs cells slots Q (F0 m (pc + 1) ls (.int (xs j) :: rest))) : W p l e R s m args below meth c H locs cells slots Q (F0 m pc ls (.int (nI j) :: .ref b :: rest)) :=
  va_sld hexec hb hX hbl hbA hS (vp_in_nI hj hL) hdg (by rw [nI_clamp (by omega)]; exact kk)
end ESL
/-- the class of int arrays -/
theorem es_int {args : Array Value} {s : State} (h : (Cond.arrayClass .int).before args s = true) : ∃ cI : ClassId, ArrOfT s cI .int ∧ va_RA s cI .int := by
  obtain ⟨cA, kA, comp, h1, h2, h3⟩ := Cond.arrayClass_spec h
  exact ⟨cA, fun n z => ⟨fun k h => (by cases h), kA, h2, comp, h3⟩, h1⟩

