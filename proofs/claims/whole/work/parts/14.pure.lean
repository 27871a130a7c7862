theorem es_at_lk {tx : Nat → Int32} {n j : Nat} (hj : j < 2 ^ 31) (hn : n < 2 ^ 31) : (if 0 ≤ nI j ∧ nI j < nI n then tx (nI j).toNatClampNeg else -1) = es_lk tx n j := by
  unfold es_lk
  rw [nI_clamp hj]
  by_cases h : j < n
  · rw [if_pos h, if_pos ⟨nI_pos' hj, nI_lt h hn⟩]
  · rw [if_neg h, if_neg (fun z => absurd ((nI_ltI hj hn).mp z.2) h)]
theorem es_q_st {ar lk : Nat → Int32} {b i : Nat} {x : Int32} (ha : es_ta ar) (hs : es_sy lk) (h : x = es_q ar (es_at lk b) i) (h1 : ¬ x = -1) : ∃ q : Nat, q < 20 ∧ x = nI q := by
  rw [h]; rw [h] at h1
  exact (es_q_ok ha (fun k => hs (b + k)) i).resolve_left h1
theorem es_lk_end {tx : Nat → Int32} {n j : Nat} (h : n ≤ j) : es_lk tx n j = -1 := if_neg (by omega)
theorem es_q_big {ar tx : Nat → Int32} {n b i : Nat} (hn : n ≤ 400) (h : 400 < i) : es_q ar (es_at (es_lk tx n) b) i = -1 := by
  have h1 := es_q_end (ar := ar) (g := es_at (es_lk tx n) b) (k := n - b) (es_lk_end (by omega)) (i - (n - b + 1))
  rwa [show n - b + 1 + (i - (n - b + 1)) = i by omega] at h1
theorem es_exit {ar ki lk : Nat → Int32} {b i le : Nat} {kd : Int32} (h : es_isL ar (es_at lk b) i) (hle : le = es_bl ar ki (es_at lk b) i) (hkd : kd = es_bk ar ki (es_at lk b) i) : i = es_Lo ar lk b ∧ le = es_Le ar ki lk b ∧ kd = es_Kd ar ki lk b := by
  have e := es_Lo_of h
  refine ⟨e.symm, ?_, ?_⟩
  · unfold es_Le; rw [e]; exact hle
  · unfold es_Kd; rw [e]; exact hkd
theorem es_bmv {b cn ou : Nat} (h : cn ≤ b + ou) : nI b - (nI cn - nI ou) = nI (b + ou - cn) := by
  have e : nI (b + ou - cn) + nI cn = nI b + nI ou := by
    rw [nI_add, nI_add]; congr 1; omega
  generalize nI (b + ou - cn) = x at e ⊢
  grind
theorem es_fnd_s {ar ki lk : Nat → Int32} {E : Nat → Nat → Int32} {m b : Nat} (h : es_fnd ar ki lk E m) (hb : b = es_B (es_Le ar ki lk) m) : es_fnd ar ki lk (es_row4 (upd (E 0) m (nI b)) (upd (E 1) m (nI (es_Le ar ki lk b))) (upd (E 2) m (es_Kd ar ki lk b)) (upd (E 3) m (nI (es_Lo ar lk b)))) (m + 1) := by
  intro i hi
  by_cases e : i = m
  · rw [e, hb]
    exact ⟨pk_us, pk_us, pk_us, pk_us⟩
  · obtain ⟨h1, h2, h3, h4⟩ := h i (by omega)
    exact ⟨(pk_un e).trans h1, (pk_un e).trans h2, (pk_un e).trans h3, (pk_un e).trans h4⟩
theorem es_fnd_le {ar ki lk : Nat → Int32} {F E : Nat → Nat → Int32} {m c : Nat} (h : es_fnd ar ki lk F c) (hm : m ≤ c) (he : ∀ a, a < 4 → ∀ j, j < m → E a j = F a j) : es_fnd ar ki lk E m := by
  intro i hi
  rw [he 0 (by omega) i hi, he 1 (by omega) i hi, he 2 (by omega) i hi, he 3 (by omega) i hi]
  exact h i (by omega)
theorem es_B_ge {Le : Nat → Nat} : ∀ m, (∀ i, i < m → 0 < Le (es_B Le i)) → m ≤ es_B Le m := by
  intro m
  induction m with
  | zero => intro _; exact Nat.zero_le _
  | succ m ih =>
    intro h
    have h1 := ih (fun i hi => h i (by omega))
    have h2 := h m (by omega)
    rw [es_B]; omega
theorem es_cnt_n {Le : Nat → Nat} {n c : Nat} (h : es_cnt Le n c) : c ≤ n := by
  rcases Nat.eq_zero_or_pos c with h0 | h0
  · omega
  · have h1 := es_B_ge (Le := Le) (c - 1) (fun i hi => h.2.1 i (by omega))
    have h2 := h.1 (c - 1) (by omega)
    omega
theorem es_end_cnt {Le : Nat → Nat} {n m : Nat} (hb : es_B Le m = n) (h : ∀ i, i < m → es_B Le i < n ∧ 0 < Le (es_B Le i)) : es_cnt Le n m := by
  refine ⟨fun i hi => (h i hi).1, fun i hi => (h i (by omega)).2, ?_⟩
  rcases Nat.eq_zero_or_pos m with h0 | h0
  · left
    rw [h0, es_B] at hb
    exact ⟨h0, hb.symm⟩
  · exact Or.inr ⟨h0, Or.inr hb⟩
theorem es_fail_cnt {Le : Nat → Nat} {n m : Nat} (hb : es_B Le m < n) (h0 : Le (es_B Le m) = 0) (h : ∀ i, i < m → es_B Le i < n ∧ 0 < Le (es_B Le i)) : es_cnt Le n (m + 1) := by
  refine ⟨fun i hi => ?_, fun i hi => (h i (by omega)).2, Or.inr ⟨by omega, Or.inl h0⟩⟩
  by_cases e : i = m
  · rw [e]; exact hb
  · exact (h i (by omega)).1
theorem es_fnd_mv {ar ki lk lk' : Nat → Int32} {E G u : Nat → Nat → Int32} {n n' pl ou cn m k c : Nat} (h : es_chg lk lk' n n' pl ou cn) (hG : es_fnd ar ki lk G c) (hE : es_fnd ar ki lk' E m) (hk : k ≤ c) (hu : es_mvd E G u m k (nI cn - nI ou) (c - k)) (hb : pl + ou ≤ es_B (es_Le ar ki lk) k) (hm : es_B (es_Le ar ki lk') m + ou = es_B (es_Le ar ki lk) k + cn) : es_fnd ar ki lk' u (m + (c - k)) := by
  intro i hi
  rcases Nat.lt_or_ge i m with h1 | h1
  · rw [hu.1 0 (by omega) i h1, hu.1 1 (by omega) i h1, hu.1 2 (by omega) i h1, hu.1 3 (by omega) i h1]
    exact hE i h1
  · obtain ⟨j, rfl⟩ : ∃ j, i = m + j := ⟨i - m, by omega⟩
    obtain ⟨e0, e1, e2, e3⟩ := hu.2 j (by omega)
    obtain ⟨g0, g1, g2, g3⟩ := hG (k + j) (by omega)
    obtain ⟨s1, s2⟩ := es_B_suf (ar := ar) (ki := ki) h hb hm j
    obtain ⟨t1, t2, t3⟩ := es_suf (ar := ar) (ki := ki) h s2 s1
    rw [e0, e1, e2, e3, g0, g1, g2, g3, t1, t2, t3, es_mv (by omega)]
    refine ⟨?_, rfl, rfl, rfl⟩
    congr 1
    omega
theorem es_syn {ar ki lk : Nat → Int32} {G : Nat → Nat → Int32} {n c i X : Nat} {bo : Int32} (hG : es_fnd ar ki lk G c) (hc : es_cnt (es_Le ar ki lk) n c) (hn : n ≤ 400) (e : bo = if 0 ≤ nI i ∧ nI i < nI c then G 0 (nI i).toNatClampNeg else -1) (hi : i ≤ c) (hX : X < 2 ^ 31) (h : bo = nI X) : i < c ∧ es_B (es_Le ar ki lk) i = X := by
  have hcn := es_cnt_n hc
  rcases Nat.lt_or_ge i c with h1 | h1
  · refine ⟨h1, ?_⟩
    rw [if_pos ⟨nI_pos' (by omega), nI_lt h1 (by omega)⟩, nI_clamp (by omega), (hG i h1).1] at e
    have h2 := hc.1 i h1
    exact (nI_eq (by omega) hX).mp (e.symm.trans h)
  · rw [if_neg (fun z => absurd ((nI_ltI (by omega) (by omega)).mp z.2) (by omega))] at e
    exact absurd (h.symm.trans e) (es_nnm hX)
theorem es_nsyn {ar ki lk : Nat → Int32} {G : Nat → Nat → Int32} {n c i X : Nat} {bo : Int32} (hG : es_fnd ar ki lk G c) (hc : es_cnt (es_Le ar ki lk) n c) (hn : n ≤ 400) (e : bo = if 0 ≤ nI i ∧ nI i < nI c then G 0 (nI i).toNatClampNeg else -1) (hX : X < 2 ^ 31) (h : ¬ bo = nI X) (hi : i < c) : es_B (es_Le ar ki lk) i ≠ X := fun z => by
  have hcn := es_cnt_n hc
  rw [if_pos ⟨nI_pos' (by omega), nI_lt hi (by omega)⟩, nI_clamp (by omega), (hG i hi).1, z] at e
  exact h e
/-- behind firstFrom: where no old one begins, none does -/
theorem es_nostop {ar ki lk : Nat → Int32} {G : Nat → Nat → Int32} {n c ok i pl ou cn b : Nat} {bo : Int32} (hG : es_fnd ar ki lk G c) (hc : es_cnt (es_Le ar ki lk) n c) (hn : n ≤ 400) (hb : b ≤ 400) (hcn : cn ≤ 16) (hou : ou ≤ 400) (hold : ∀ j, j < ok → es_B (es_Le ar ki lk) j < pl + ou ∨ es_B (es_Le ar ki lk) j + cn < b + ou) (hpl : pl + cn ≤ b)
    (hi : i ≤ c) (h3 : ∀ j, ok ≤ j → j < i → G 0 j < nI (b + ou - cn)) (h4 : i < c → nI (b + ou - cn) ≤ G 0 i) (e : bo = if 0 ≤ nI i ∧ nI i < nI c then G 0 (nI i).toNatClampNeg else -1) (h : ¬ bo = nI (b + ou - cn)) : es_stop (es_B (es_Le ar ki lk)) c pl ou cn b = false ∧ ∀ j, j < i → es_B (es_Le ar ki lk) j < pl + ou ∨ es_B (es_Le ar ki lk) j + cn < b + ou := by
  have hcc := es_cnt_n hc
  have key : ∀ j, j < i → es_B (es_Le ar ki lk) j < pl + ou ∨ es_B (es_Le ar ki lk) j + cn < b + ou := by
    intro j hj
    rcases Nat.lt_or_ge j ok with h5 | h5
    · exact hold j h5
    · right
      have h6 := h3 j h5 hj
      rw [(hG j (by omega)).1] at h6
      have h7 := hc.1 j (by omega)
      have h8 := (nI_ltI (by omega) (by omega)).mp h6
      omega
  refine ⟨?_, key⟩
  cases hs : es_stop (es_B (es_Le ar ki lk)) c pl ou cn b with
  | false => rfl
  | true =>
    exfalso
    obtain ⟨-, j, hj, hB⟩ := es_stop_iff.mp hs
    rcases Nat.lt_trichotomy j i with h5 | h5 | h5
    · rcases key j h5 with h6 | h6 <;> omega
    · subst h5
      exact es_nsyn hG hc hn e (by omega) h hj (by omega)
    · have h6 := es_B_mono hc.2.1 i j h5 hj
      have h7 := h4 (by omega)
      rw [(hG i (by omega)).1] at h7
      have h8 := hc.1 i (by omega)
      have h9 := (nI_leI (by omega) (by omega)).mp h7
      omega
theorem es_nostop1 {B : Nat → Nat} {c pl ou cn b : Nat} (h : b < pl + cn) : es_stop B c pl ou cn b = false := by
  cases hs : es_stop B c pl ou cn b with
  | false => rfl
  | true => have := (es_stop_iff.mp hs).1; omega
theorem es_nb {E : Nat → Nat → Int32} {m b L : Nat} {x y : Int32} : (if 0 < m + 1 then es_row4 (upd (E 0) m (nI b)) (upd (E 1) m (nI L)) (upd (E 2) m x) (upd (E 3) m y) 0 (m + 1 - 1) + es_row4 (upd (E 0) m (nI b)) (upd (E 1) m (nI L)) (upd (E 2) m x) (upd (E 3) m y) 1 (m + 1 - 1) else 0) = nI (b + L) := by
  rw [if_pos (Nat.succ_pos m), Nat.add_sub_cancel, ← nI_add]
  show upd (E 0) m (nI b) m + upd (E 1) m (nI L) m = _
  rw [pk_us, pk_us]
theorem es_nf {E : Nat → Nat → Int32} {w' : Nat → Int32} {m L : Nat} {x y : Int32} (hL : L < 2 ^ 31) : (0 < m + 1 ∧ es_row4 w' (upd (E 1) m (nI L)) (upd (E 2) m x) (upd (E 3) m y) 1 (m + 1 - 1) = 0) ↔ L = 0 := by
  rw [Nat.add_sub_cancel]
  show (0 < m + 1 ∧ upd (E 1) m (nI L) m = 0) ↔ L = 0
  rw [pk_us]
  exact ⟨fun h => (nI_eq hL (by omega)).mp (h.2.trans nI_0.symm), fun h => ⟨Nat.succ_pos m, by rw [h]; rfl⟩⟩

