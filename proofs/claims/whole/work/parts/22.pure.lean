def es_tt (tx : Nat → Int32) (n : Nat) : Prop := ∀ j, j < n → ∃ q : Nat, q < 10 ∧ tx j = nI q
theorem es_tt_sy {tx : Nat → Int32} {n : Nat} (h : es_tt tx n) : es_sy (es_lk tx n) := fun j => by
  unfold es_lk
  by_cases hj : j < n
  · rw [if_pos hj]; exact Or.inr (h j hj)
  · rw [if_neg hj]; exact Or.inl rfl
theorem es_tt_of {tx ux : Nat → Int32} {n pl ou cn : Nat} {sy : Int64} (hs : es_tt tx n) (h1 : pl + ou ≤ n) (h : es_rep tx ux n pl ou sy cn) (hd : ∀ j, j < cn → es_dg sy j < 10) : es_tt ux (n - ou + cn) := by
  intro j h2
  rcases Nat.lt_or_ge j pl with h3 | h3
  · rw [h.1 j h3]; exact hs j (by omega)
  · rcases Nat.lt_or_ge j (pl + cn) with h5 | h5
    · have h6 := h.2.1 (j - pl) (by omega)
      rw [show pl + (j - pl) = j by omega] at h6
      exact ⟨_, hd (cn - 1 - (j - pl)) (by omega), h6⟩
    · have h6 := h.2.2 (j + ou - cn) (by omega) (by omega)
      rw [show j + ou - cn - ou + cn = j by omega] at h6
      rw [h6]
      exact hs _ (by omega)
theorem es_m1_lt {x : Int32} (h : x = -1) : x < 0 := by rw [h]; decide
theorem es_nlt_m1 {x : Int32} (h : ¬ x < 0) : ¬ x = -1 := fun z => h (es_m1_lt z)
theorem es_q_st2 {ar lk : Nat → Int32} {b i : Nat} {x : Int32} (ha : es_ta ar) (hs : es_sy lk) (h : x = es_q ar (es_at lk b) i) (h1 : ¬ x < 0) : ∃ q : Nat, q < 20 ∧ x = nI q := es_q_st ha hs h (es_nlt_m1 h1)
theorem es_q_neg {ar lk : Nat → Int32} {b i : Nat} {x : Int32} (ha : es_ta ar) (hs : es_sy lk) (h : x = es_q ar (es_at lk b) i) (h1 : x < 0) : es_q ar (es_at lk b) i = -1 := by
  rcases es_q_ok (g := es_at lk b) ha (fun k => hs (b + k)) i with h2 | ⟨q, hq, h2⟩
  · exact h2
  · rw [h, h2] at h1
    exact absurd h1 (nI_pos (by omega))
theorem es_q_in {ar mx : Nat → Int32} {n b i q s : Nat} (hq : q < 20) (h : nI q = es_q ar (es_at (es_lk mx n) b) i) (hn : b + i < n) (hs : s < 10) (h1 : mx (b + i) = nI s) : ar (10 * q + s) = es_q ar (es_at (es_lk mx n) b) (i + 1) := by
  rw [← es_q_s hq h]
  have e : es_at (es_lk mx n) b i = nI s := by
    show es_lk mx n (b + i) = nI s
    unfold es_lk
    rw [if_pos hn]; exact h1
  rw [e, if_neg (es_nnm (by omega)), nI_clamp (by omega)]
theorem es_q_out {ar mx : Nat → Int32} {n b i : Nat} (h : n ≤ b + i) : -1 = es_q ar (es_at (es_lk mx n) b) (i + 1) := (es_q_end (ar := ar) (g := es_at (es_lk mx n) b) (k := i) (es_lk_end h) 0).symm
theorem es_kd_neg {ar ki lk : Nat → Int32} {b i : Nat} (ha : es_ta ar) (hs : es_sy lk) (h : es_q ar (es_at lk b) i < 0) : es_kd ki (es_q ar (es_at lk b) i) = -1 := by
  rw [es_q_neg ha hs rfl h]; exact es_kd_m
theorem es_kd_q {ki : Nat → Int32} {y : Int32} {q : Nat} (e : y = nI q) (hq : q < 20) : ki y.toNatClampNeg = es_kd ki y := by
  unfold es_kd
  rw [if_neg (by rw [e]; exact es_nnm (by omega))]
theorem es_kd_m1 {ki : Nat → Int32} {y : Int32} {q : Nat} (hk : es_tk2 ki) (e : y = nI q) (hq : q < 20) (h : es_kd ki y < 0) : es_kd ki y = -1 := by
  rw [← es_kd_q e hq, e, nI_clamp (by omega)] at h ⊢
  rcases hk q hq with h1 | ⟨k, hk2, h1⟩
  · exact h1
  · rw [h1] at h; exact absurd h (nI_pos (by omega))
theorem es_subb {b i : Nat} : nI (b + i + 1) - nI b = nI (i + 1) := by
  rw [pk_sub (by omega)]; congr 1; omega
theorem es_rq {L : Nat} {q : Int32} (h : q = if 0 < L then nI 1 else nI 0) : ∃ m : Nat, ((m = 1 ∧ 0 < L) ∨ (m = 0 ∧ L = 0)) ∧ q = nI m := by
  by_cases h1 : 0 < L
  · exact ⟨1, Or.inl ⟨rfl, h1⟩, by rw [h, if_pos h1]⟩
  · exact ⟨0, Or.inr ⟨rfl, by omega⟩, by rw [h, if_neg h1]⟩
/-- what the model holds: tokens, and the failure beside them -/
def es_mdl (ar ki lk : Nat → Int32) (n c : Nat) (M : Nat → Nat → Int32) (tn : Nat) (fl fk : Int32) : Prop := es_cnt (es_Le ar ki lk) n c ∧ es_fnd ar ki lk M tn ∧ tn = es_tn (es_Le ar ki lk) c ∧ ((tn + 1 = c ∧ fl = nI (es_B (es_Le ar ki lk) tn) ∧ fk = nI (es_Lo ar lk (es_B (es_Le ar ki lk) tn))) ∨ (tn = c ∧ fl = -1 ∧ fk = nI 0))
def es_ph (ar ki lk : Nat → Int32) (n b ph : Nat) (fl fk : Int32) : Prop := (ph = 1 ∧ fl = -1 ∧ fk = nI 0) ∨ (ph = 0 ∧ fl = nI b ∧ fk = nI (es_Lo ar lk b) ∧ b < n ∧ es_Le ar ki lk b = 0)
theorem es_ph1 {ar ki lk : Nat → Int32} {n b ph : Nat} {fl fk : Int32} (hn : n ≤ 400) (h : es_ph ar ki lk n b ph fl fk) (h1 : ¬ 0 ≤ fl) : ph = 1 ∧ fl = -1 ∧ fk = nI 0 := by
  rcases h with h | ⟨-, h2, -, h3, -⟩
  · exact h
  · rw [h2] at h1; exact absurd (nI_pos' (by omega)) h1
theorem es_sa_end {ar ki lk : Nat → Int32} {E : Nat → Nat → Int32} {n tn b ph : Nat} {fl fk : Int32} (hE : es_fnd ar ki lk E tn) (htok : ∀ i, i < tn → es_B (es_Le ar ki lk) i < n ∧ 0 < es_Le ar ki lk (es_B (es_Le ar ki lk) i)) (hb : b = es_B (es_Le ar ki lk) tn) (hbn : b ≤ n) (h : es_ph ar ki lk n b ph fl fk) (hx : n ≤ b ∨ 0 ≤ fl) : ∃ c, es_mdl ar ki lk n c E tn fl fk := by
  rcases h with ⟨-, h1, h2⟩ | ⟨-, h1, h2, h3, h4⟩
  · have hbn2 : b = n := by
      rcases hx with h3 | h3
      · omega
      · rw [h1] at h3; exact absurd h3 (by decide)
    have hc := es_end_cnt (hb.symm.trans hbn2) htok
    refine ⟨tn, hc, hE, ?_, Or.inr ⟨rfl, h1, h2⟩⟩
    unfold es_tn
    rw [if_neg]
    intro ⟨h3, h4⟩
    have := (htok (tn - 1) (by omega)).2
    omega
  · have hc := es_fail_cnt (hb ▸ h3) (hb ▸ h4) htok
    refine ⟨tn + 1, hc, hE, ?_, Or.inl ⟨rfl, by rw [h1, hb], by rw [h2, hb]⟩⟩
    unfold es_tn
    rw [if_pos ⟨Nat.succ_pos _, by rw [Nat.add_sub_cancel, ← hb]; exact h4⟩]
    rfl
theorem es_nar1 {m : Nat} (h : m ≤ 1) : narrow .boolean (.int (nI m)) = .int (nI m) := by
  rcases Nat.le_one_iff_eq_zero_or_eq_one.mp h with rfl | rfl <;> rfl
/-- the old tokens and the old failure, as the model keeps them over an edit -/
def es_old (ar ki lk : Nat → Int32) (n c : Nat) (ob : Nat → Int32) (tn : Nat) (fl : Int32) : Prop := es_cnt (es_Le ar ki lk) n c ∧ (∀ j, j < tn → ob j = nI (es_B (es_Le ar ki lk) j)) ∧ ((tn + 1 = c ∧ fl = nI (es_B (es_Le ar ki lk) tn)) ∨ (tn = c ∧ fl = -1))
theorem es_bg {ar ki lk lk' : Nat → Int32} {ob : Nat → Int32} {n n' c tn pl ou cn b : Nat} {fl : Int32} (h : es_chg lk lk' n n' pl ou cn) (hcn : cn ≤ 16) (ho : es_old ar ki lk n c ob tn fl) (hb : b < n') (hp : pl + cn ≤ b) : (nI (b - cn + ou) = fl ∨ nI (b - cn + ou) = nI n ∨ ∃ w : Nat, w < tn ∧ ob w = nI (b - cn + ou)) ↔ es_stop (es_B (es_Le ar ki lk)) c pl ou cn b = true := by
  obtain ⟨h1, h2, h3⟩ := ho
  obtain ⟨g1, g2, g3, g4, -⟩ := h
  have hc := es_cnt_n h1
  rw [es_stop_iff]
  constructor
  · rintro (h4 | h4 | ⟨w, hw, h4⟩)
    · rcases h3 with ⟨e, h5⟩ | ⟨e, h5⟩
      · rw [h5] at h4
        have h6 := h1.1 tn (by omega)
        have h7 := (nI_eq (by omega) (by omega)).mp h4
        exact ⟨hp, tn, by omega, by omega⟩
      · rw [h5] at h4; exact absurd h4 (es_nnm (by omega))
    · have h7 := (nI_eq (by omega) (by omega)).mp h4
      omega
    · rw [h2 w hw] at h4
      have hwc : w < c := by rcases h3 with ⟨e, -⟩ | ⟨e, -⟩ <;> omega
      have h6 := h1.1 w hwc
      have h7 := (nI_eq (by omega) (by omega)).mp h4
      exact ⟨hp, w, hwc, by omega⟩
  · rintro ⟨-, i, hi, hB⟩
    rcases Nat.lt_or_ge i tn with h5 | h5
    · refine Or.inr (Or.inr ⟨i, h5, ?_⟩)
      rw [h2 i h5]; congr 1; omega
    · rcases h3 with ⟨e, h6⟩ | ⟨e, h6⟩
      · have e2 : i = tn := by omega
        left
        rw [h6, ← e2]; congr 1; omega
      · omega
theorem es_shr15 {sy : Int64} {k : Nat} (hk : k ≤ 15) : (sy >>> ((nI (4 * k)).toInt64 &&& 63)) &&& 15 = lN (es_dg sy k) := by
  apply Int64.toBitVec.inj
  have e1 : ((nI (4 * k)).toInt64 &&& 63).toBitVec.smod 64 = BitVec.ofNat 64 (4 * k) := by
    have : ∀ q : Fin 64, ((nI q.val).toInt64 &&& 63).toBitVec.smod 64 = BitVec.ofNat 64 q.val := by decide +kernel
    exact this ⟨4 * k, by omega⟩
  show (sy.toBitVec.sshiftRight' (((nI (4 * k)).toInt64 &&& 63).toBitVec.smod 64)) &&& (15 : Int64).toBitVec = BitVec.ofNat 64 (es_dg sy k)
  rw [e1]
  apply BitVec.eq_of_toNat_eq
  have e2 : (15 : Int64).toBitVec.toNat = 2 ^ 4 - 1 := by decide
  rw [BitVec.toNat_and, e2, Nat.and_two_pow_sub_one_eq_mod, BitVec.toNat_ofNat]
  have h1 := es_dg_lt sy k
  rw [Nat.mod_eq_of_lt (show es_dg sy k < 2 ^ 64 by omega)]
  have e3 : (BitVec.ofNat 64 (4 * k)).toNat = 4 * k := by rw [BitVec.toNat_ofNat]; omega
  rw [BitVec.sshiftRight', e3]
  unfold es_dg
  -- the lowest four bits of an arithmetic shift are those of a logical one
  have key : ∀ i, i < 4 → (sy.toBitVec.sshiftRight (4 * k)).toNat.testBit i = (sy.toBitVec.toNat / 2 ^ (4 * k)).testBit i := by
    intro i hi
    rw [BitVec.testBit_toNat, BitVec.getLsbD_sshiftRight, ← Nat.shiftRight_eq_div_pow, Nat.testBit_shiftRight, BitVec.testBit_toNat]
    have h2 : ¬ 64 ≤ i := by omega
    have h3 : 4 * k + i < 64 := by omega
    simp [h2, h3]
  rw [show (16 : Nat) = 2 ^ 4 by decide]
  apply Nat.eq_of_testBit_eq
  intro i
  rw [Nat.testBit_mod_two_pow, Nat.testBit_mod_two_pow]
  by_cases hi : i < 4
  · rw [key i hi]
  · simp [hi]
/-- a row moved in place -/
def es_mvA (mx E : Nat → Int32) (lo k hi cn ou : Nat) : Prop := (∀ j, j < lo → E j = mx j) ∧ (∀ j, lo ≤ j → j < k → E j = mx j) ∧ ∀ j, k ≤ j → lo ≤ j → j < hi → E j = mx (j - cn + ou)
def es_mvB (mx E : Nat → Int32) (lo k hi cn ou : Nat) : Prop := (∀ j, j < lo → E j = mx j) ∧ (∀ j, lo ≤ j → j < k → E j = mx (j - cn + ou)) ∧ ∀ j, k ≤ j → E j = mx j
theorem es_mvA_s {mx E : Nat → Int32} {lo k hi cn ou : Nat} (h : es_mvA mx E lo (k + 1) hi cn ou) (hk : lo ≤ k) (ho : ou < cn) (hc : cn ≤ lo) : es_mvA mx (upd E k (E (k - cn + ou))) lo k hi cn ou := by
  have e : E (k - cn + ou) = mx (k - cn + ou) := by
    rcases Nat.lt_or_ge (k - cn + ou) lo with h1 | h1
    · exact h.1 _ h1
    · exact h.2.1 _ h1 (by omega)
  refine ⟨fun j hj => (pk_un (by omega)).trans (h.1 j hj), fun j h1 h2 => (pk_un (by omega)).trans (h.2.1 j h1 (by omega)), fun j h1 h2 h3 => ?_⟩
  by_cases e2 : j = k
  · rw [e2, pk_us, e]
  · exact (pk_un e2).trans (h.2.2 j (by omega) h2 h3)
theorem es_mvB_s {mx E : Nat → Int32} {lo k hi cn ou : Nat} (h : es_mvB mx E lo k hi cn ou) (hk : lo ≤ k) (ho : cn ≤ ou) (hc : cn ≤ lo) : es_mvB mx (upd E k (E (k - cn + ou))) lo (k + 1) hi cn ou := by
  have e : E (k - cn + ou) = mx (k - cn + ou) := h.2.2 _ (by omega)
  refine ⟨fun j hj => (pk_un (by omega)).trans (h.1 j hj), fun j h1 h2 => ?_, fun j h1 => (pk_un (by omega)).trans (h.2.2 j (by omega))⟩
  by_cases e2 : j = k
  · rw [e2, pk_us, e]
  · exact (pk_un e2).trans (h.2.1 j h1 (by omega))
def es_mvd2 (mx E : Nat → Int32) (lo hi pl cn ou : Nat) : Prop := (∀ j, j < pl → E j = mx j) ∧ ∀ j, lo ≤ j → j < hi → E j = mx (j - cn + ou)
theorem es_rep_of2 {mx cp E : Nat → Int32} {n pl ou : Nat} {sy : Int64} {cn : Nat} (h1 : pl + ou ≤ n) (hm : es_mvd2 mx cp (pl + cn) (n - ou + cn) pl cn ou) (h : es_rpi cp E pl sy cn cn) : es_rep mx E n pl ou sy cn := by
  refine ⟨fun j hj => ?_, h.2, fun j hj hj2 => ?_⟩
  · rw [h.1 j (Or.inl hj), hm.1 j hj]
  · rw [h.1 _ (Or.inr (by omega)), hm.2 _ (by omega) (by omega)]
    congr 1
    omega
theorem es_i_le {ar mx : Nat → Int32} {n b i q : Nat} (hn : n ≤ 400) (h : nI q = es_q ar (es_at (es_lk mx n) b) i) (hq : q < 20) : i + 1 ≤ 401 := by
  rcases Nat.lt_or_ge 400 i with h1 | h1
  · exact absurd (h.trans (es_q_big hn h1)) (es_nnm (by omega))
  · omega
theorem es_bgA {P : Prop} {i bg : Nat} {x o : Int32} {ob : Nat → Int32} (h : (bg = 1 ∧ (x = o ∨ P ∨ ∃ w : Nat, w < i ∧ ob w = x)) ∨ (bg = 0 ∧ ¬ (x = o ∨ P ∨ ∃ w : Nat, w < i ∧ ob w = x))) (h1 : ¬ bg = 0) : (1 = 1 ∧ (x = o ∨ P ∨ ∃ w : Nat, w < i + 1 ∧ ob w = x)) ∨ (1 = 0 ∧ ¬ (x = o ∨ P ∨ ∃ w : Nat, w < i + 1 ∧ ob w = x)) := by
  rcases h with ⟨-, h2⟩ | ⟨h2, -⟩
  · refine Or.inl ⟨rfl, ?_⟩
    rcases h2 with h2 | h2 | ⟨w, h2, h3⟩
    · exact Or.inl h2
    · exact Or.inr (Or.inl h2)
    · exact Or.inr (Or.inr ⟨w, by omega, h3⟩)
  · exact absurd h2 h1
theorem es_bgB {P : Prop} {i : Nat} {x o : Int32} {ob : Nat → Int32} (h : ob i = x) : (1 = 1 ∧ (x = o ∨ P ∨ ∃ w : Nat, w < i + 1 ∧ ob w = x)) ∨ (1 = 0 ∧ ¬ (x = o ∨ P ∨ ∃ w : Nat, w < i + 1 ∧ ob w = x)) := Or.inl ⟨rfl, Or.inr (Or.inr ⟨i, by omega, h⟩)⟩
theorem es_bgC {P : Prop} {i bg : Nat} {x o : Int32} {ob : Nat → Int32} (h : (bg = 1 ∧ (x = o ∨ P ∨ ∃ w : Nat, w < i ∧ ob w = x)) ∨ (bg = 0 ∧ ¬ (x = o ∨ P ∨ ∃ w : Nat, w < i ∧ ob w = x))) (h1 : bg = 0) (h2 : ¬ ob i = x) : (0 = 1 ∧ (x = o ∨ P ∨ ∃ w : Nat, w < i + 1 ∧ ob w = x)) ∨ (0 = 0 ∧ ¬ (x = o ∨ P ∨ ∃ w : Nat, w < i + 1 ∧ ob w = x)) := by
  rcases h with ⟨h3, -⟩ | ⟨-, h3⟩
  · omega
  · refine Or.inr ⟨rfl, ?_⟩
    rintro (h4 | h4 | ⟨w, h4, h5⟩)
    · exact h3 (Or.inl h4)
    · exact h3 (Or.inr (Or.inl h4))
    · by_cases e : w = i
      · rw [e] at h5; exact h2 h5
      · exact h3 (Or.inr (Or.inr ⟨w, by omega, h5⟩))

