-- ===== what scanning is =====
/-- the text as it is looked at: behind its end there is none -/
def es_lk (tx : Nat → Int32) (n : Nat) (j : Nat) : Int32 := if j < n then tx j else -1
/-- the state behind k symbols -/
def es_q (ar : Nat → Int32) (g : Nat → Int32) : Nat → Int32
  | 0 => 0
  | k + 1 => if es_q ar g k = -1 ∨ g k = -1 then -1 else ar (10 * (es_q ar g k).toNatClampNeg + (g k).toNatClampNeg)
def es_kd (ki : Nat → Int32) (y : Int32) : Int32 := if y = -1 then -1 else ki y.toNatClampNeg
/-- the longest row so far whose state has a kind, and that kind -/
def es_bl (ar ki g : Nat → Int32) : Nat → Nat
  | 0 => 0
  | k + 1 => if es_kd ki (es_q ar g (k + 1)) = -1 then es_bl ar ki g k else k + 1
def es_bk (ar ki g : Nat → Int32) : Nat → Int32
  | 0 => -1
  | k + 1 => if es_kd ki (es_q ar g (k + 1)) = -1 then es_bk ar ki g k else es_kd ki (es_q ar g (k + 1))
def es_isL (ar g : Nat → Int32) (L : Nat) : Prop := es_q ar g L = -1 ∧ ∀ j, j < L → es_q ar g j ≠ -1
def es_at (lk : Nat → Int32) (b : Nat) : Nat → Int32 := fun k => lk (b + k)
noncomputable def es_Lo (ar lk : Nat → Int32) (b : Nat) : Nat := Classical.epsilon (fun L => es_isL ar (es_at lk b) L)
noncomputable def es_Le (ar ki lk : Nat → Int32) (b : Nat) : Nat := es_bl ar ki (es_at lk b) (es_Lo ar lk b)
noncomputable def es_Kd (ar ki lk : Nat → Int32) (b : Nat) : Int32 := es_bk ar ki (es_at lk b) (es_Lo ar lk b)
/-- the table and the text are as they must be -/
def es_ta (ar : Nat → Int32) : Prop := ∀ j, j < 200 → ar j = -1 ∨ ∃ q : Nat, q < 20 ∧ ar j = nI q
def es_tk2 (ki : Nat → Int32) : Prop := ∀ j, j < 20 → ki j = -1 ∨ ∃ q : Nat, q < 100 ∧ ki j = nI q
def es_sy (lk : Nat → Int32) : Prop := ∀ j, lk j = -1 ∨ ∃ q : Nat, q < 10 ∧ lk j = nI q
theorem es_q_ok {ar g : Nat → Int32} (ha : es_ta ar) (hg : ∀ k, g k = -1 ∨ ∃ q : Nat, q < 10 ∧ g k = nI q) : ∀ k, es_q ar g k = -1 ∨ ∃ q : Nat, q < 20 ∧ es_q ar g k = nI q
  | 0 => Or.inr ⟨0, by decide, rfl⟩
  | k + 1 => by
    rw [es_q]
    by_cases h : es_q ar g k = -1 ∨ g k = -1
    · rw [if_pos h]; exact Or.inl rfl
    · rw [if_neg h]
      rcases es_q_ok ha hg k with h1 | ⟨q, hq, h1⟩
      · exact absurd (Or.inl h1) h
      · rcases hg k with h2 | ⟨t, ht, h2⟩
        · exact absurd (Or.inr h2) h
        · rw [h1, h2, nI_clamp (by omega), nI_clamp (by omega)]
          exact ha _ (by omega)
theorem es_q_s {ar g : Nat → Int32} {k q : Nat} (hq : q < 20) (h : nI q = es_q ar g k) : (if g k = -1 then -1 else ar (10 * q + (g k).toNatClampNeg)) = es_q ar g (k + 1) := by
  rw [es_q, ← h, nI_clamp (by omega)]
  by_cases h2 : g k = -1
  · rw [if_pos h2, if_pos (Or.inr h2)]
  · rw [if_neg h2, if_neg (fun z => z.elim (es_nnm (by omega)) h2)]
theorem es_q_m {ar g : Nat → Int32} {k : Nat} (h : es_q ar g k = -1) : es_q ar g (k + 1) = -1 := by rw [es_q, if_pos (Or.inl h)]
theorem es_q_end {ar g : Nat → Int32} {k : Nat} (h : g k = -1) : ∀ i, es_q ar g (k + 1 + i) = -1
  | 0 => by rw [Nat.add_zero, es_q, if_pos (Or.inr h)]
  | i + 1 => es_q_m (es_q_end h i)
theorem es_isL_eq {ar g : Nat → Int32} {L L' : Nat} (h : es_isL ar g L) (h' : es_isL ar g L') : L = L' := by
  rcases Nat.lt_trichotomy L L' with h1 | h1 | h1
  · exact absurd h.1 (h'.2 L h1)
  · exact h1
  · exact absurd h'.1 (h.2 L' h1)
theorem es_Lo_of {ar lk : Nat → Int32} {b L : Nat} (h : es_isL ar (es_at lk b) L) : es_Lo ar lk b = L := es_isL_eq (Classical.epsilon_spec (p := fun L => es_isL ar (es_at lk b) L) ⟨L, h⟩) h
theorem es_Lo_is {ar lk : Nat → Int32} {b e : Nat} (he : lk (b + e) = -1) (hl : e ≤ 400) : es_isL ar (es_at lk b) (es_Lo ar lk b) ∧ es_Lo ar lk b ≤ e + 1 ∧ 1 ≤ es_Lo ar lk b := by
  have h1 : es_q ar (es_at lk b) (e + 1) = -1 := es_q_end (k := e) he 0
  obtain ⟨L, hL, hm⟩ := pk_least (fun k => es_q ar (es_at lk b) k = -1) ⟨e + 1, h1⟩
  have hle : L ≤ e + 1 := by
    rcases Nat.lt_or_ge (e + 1) L with h | h
    · exact absurd h1 (hm _ h)
    · exact h
  have h0 : L ≠ 0 := fun z => by rw [z] at hL; exact absurd (show (0 : Int32) = -1 from hL) (by decide)
  have hi : es_isL ar (es_at lk b) L := ⟨hL, hm⟩
  rw [es_Lo_of hi]
  exact ⟨hi, hle, by omega⟩
theorem es_bl_le {ar ki g : Nat → Int32} : ∀ k, es_bl ar ki g k ≤ k
  | 0 => Nat.le_refl 0
  | k + 1 => by
    rw [es_bl]
    by_cases h : es_kd ki (es_q ar g (k + 1)) = -1
    · rw [if_pos h]; exact Nat.le_succ_of_le (es_bl_le k)
    · rw [if_neg h]; exact Nat.le_refl _
theorem es_kd_m {ki : Nat → Int32} : es_kd ki (-1) = -1 := if_pos rfl
theorem es_bl_L {ar ki g : Nat → Int32} {L : Nat} (h : es_q ar g L = -1) (h1 : 1 ≤ L) : es_bl ar ki g L = es_bl ar ki g (L - 1) := by
  obtain ⟨k, rfl⟩ : ∃ k, L = k + 1 := ⟨L - 1, by omega⟩
  rw [es_bl, h, if_pos es_kd_m]; rfl
/-- a token is shorter than what it looked at, and lies in the text -/
theorem es_Le_lt {ar ki lk : Nat → Int32} {b e : Nat} (he : lk (b + e) = -1) (hl : e ≤ 400) : es_Le ar ki lk b + 1 ≤ es_Lo ar lk b ∧ es_Le ar ki lk b ≤ e := by
  obtain ⟨h1, h2, h3⟩ := es_Lo_is (ar := ar) he hl
  have h4 : es_Le ar ki lk b ≤ es_Lo ar lk b - 1 := by
    unfold es_Le
    rw [es_bl_L h1.1 h3]
    exact es_bl_le _
  omega
theorem es_bl_s0 {ar ki g : Nat → Int32} {k : Nat} (h : es_kd ki (es_q ar g (k + 1)) = -1) : es_bl ar ki g (k + 1) = es_bl ar ki g k ∧ es_bk ar ki g (k + 1) = es_bk ar ki g k := by
  constructor
  · rw [es_bl, if_pos h]
  · rw [es_bk, if_pos h]
theorem es_bl_s1 {ar ki g : Nat → Int32} {k : Nat} (h : ¬ es_kd ki (es_q ar g (k + 1)) = -1) : es_bl ar ki g (k + 1) = k + 1 ∧ es_bk ar ki g (k + 1) = es_kd ki (es_q ar g (k + 1)) := by
  constructor
  · rw [es_bl, if_neg h]
  · rw [es_bk, if_neg h]
-- ===== only what is looked at matters =====
theorem es_q_loc {ar g g' : Nat → Int32} {m : Nat} (h : ∀ k, k < m → g k = g' k) : ∀ k, k ≤ m → es_q ar g k = es_q ar g' k
  | 0, _ => rfl
  | k + 1, hk => by rw [es_q, es_q, es_q_loc h k (by omega), h k (by omega)]
theorem es_bl_loc {ar ki g g' : Nat → Int32} {m : Nat} (h : ∀ k, k ≤ m → es_q ar g k = es_q ar g' k) : ∀ k, k ≤ m → es_bl ar ki g k = es_bl ar ki g' k ∧ es_bk ar ki g k = es_bk ar ki g' k
  | 0, _ => ⟨rfl, rfl⟩
  | k + 1, hk => by
    obtain ⟨h1, h2⟩ := es_bl_loc (ki := ki) h k (by omega)
    rw [es_bl, es_bl, es_bk, es_bk, h (k + 1) hk, h1, h2]
    exact ⟨rfl, rfl⟩
theorem es_loc {ar ki lk lk' : Nat → Int32} {b b' e : Nat} (he : lk (b + e) = -1) (hl : e ≤ 400) (h : ∀ k, k < es_Lo ar lk b → lk (b + k) = lk' (b' + k)) : es_Lo ar lk' b' = es_Lo ar lk b ∧ es_Le ar ki lk' b' = es_Le ar ki lk b ∧ es_Kd ar ki lk' b' = es_Kd ar ki lk b := by
  obtain ⟨h1, h2, h3⟩ := es_Lo_is (ar := ar) he hl
  have hq := es_q_loc (ar := ar) (g := es_at lk b) (g' := es_at lk' b') h
  have h4 : es_isL ar (es_at lk' b') (es_Lo ar lk b) := ⟨by rw [← hq _ (Nat.le_refl _)]; exact h1.1, fun j hj => by rw [← hq j (Nat.le_of_lt hj)]; exact h1.2 j hj⟩
  have h5 := es_Lo_of h4
  have h6 := es_bl_loc (ki := ki) hq _ (Nat.le_refl _)
  refine ⟨h5, ?_, ?_⟩
  · unfold es_Le; rw [h5]; exact h6.1.symm
  · unfold es_Kd; rw [h5]; exact h6.2.symm
-- ===== a scan of a text =====
def es_B (Le : Nat → Nat) : Nat → Nat
  | 0 => 0
  | i + 1 => es_B Le i + Le (es_B Le i)
def es_cnt (Le : Nat → Nat) (n c : Nat) : Prop := (∀ i, i < c → es_B Le i < n) ∧ (∀ i, i + 1 < c → 0 < Le (es_B Le i)) ∧ ((c = 0 ∧ n = 0) ∨ (0 < c ∧ (Le (es_B Le (c - 1)) = 0 ∨ es_B Le c = n)))
theorem es_cnt_le {Le : Nat → Nat} {n c c' : Nat} (h : es_cnt Le n c) (h' : es_cnt Le n c') : c' ≤ c := by
  rcases Nat.lt_or_ge c c' with hlt | hge
  · exfalso
    rcases h.2.2 with ⟨h1, h2⟩ | ⟨h1, h2 | h2⟩
    · have := h'.1 0 (by omega); omega
    · have := h'.2.1 (c - 1) (by omega); omega
    · have := h'.1 c hlt; omega
  · exact hge
theorem es_cnt_eq {Le : Nat → Nat} {n c c' : Nat} (h : es_cnt Le n c) (h' : es_cnt Le n c') : c' = c := Nat.le_antisymm (es_cnt_le h h') (es_cnt_le h' h)
def es_fnd (ar ki lk : Nat → Int32) (F : Nat → Nat → Int32) (c : Nat) : Prop := ∀ i, i < c → F 0 i = nI (es_B (es_Le ar ki lk) i) ∧ F 1 i = nI (es_Le ar ki lk (es_B (es_Le ar ki lk) i)) ∧ F 2 i = es_Kd ar ki lk (es_B (es_Le ar ki lk) i) ∧ F 3 i = nI (es_Lo ar lk (es_B (es_Le ar ki lk) i))
theorem es_B_mono {Le : Nat → Nat} {c : Nat} (h : ∀ i, i + 1 < c → 0 < Le (es_B Le i)) : ∀ i j, i < j → j < c → es_B Le i < es_B Le j := by
  intro i j hij
  induction j with
  | zero => intro _; omega
  | succ j ih =>
    intro hj
    have h1 : es_B Le j < es_B Le (j + 1) := by
      have := h j hj
      show es_B Le j < es_B Le j + Le (es_B Le j)
      omega
    by_cases e : i = j
    · rw [e]; exact h1
    · have := ih (by omega) (by omega)
      omega
/-- how many tokens there are -/
def es_tn (Le : Nat → Nat) (c : Nat) : Nat := if 0 < c ∧ Le (es_B Le (c - 1)) = 0 then c - 1 else c
-- ===== what an edit scans anew =====
def es_go (stop : Nat → Bool) (Le Lo : Nat → Nat) (n : Nat) : Nat → Nat → Nat → Nat → Nat × Nat
  | 0, _, rd, sc => (rd, sc)
  | f + 1, b, rd, sc => if b < n ∧ stop b = false then (if Le b = 0 then (rd + Lo b, sc) else es_go stop Le Lo n f (b + Le b) (rd + Lo b) (sc + 1)) else (rd, sc)
def es_stop (B : Nat → Nat) (c pl ou cn b : Nat) : Bool := decide (pl + cn ≤ b) && (List.range c).any (fun i => B i + cn == b + ou)
theorem es_stop_iff {B : Nat → Nat} {c pl ou cn b : Nat} : es_stop B c pl ou cn b = true ↔ pl + cn ≤ b ∧ ∃ i, i < c ∧ B i + cn = b + ou := by
  unfold es_stop
  simp only [Bool.and_eq_true, decide_eq_true_eq, List.any_eq_true, List.mem_range, beq_iff_eq]
theorem es_go_end {stop : Nat → Bool} {Le Lo : Nat → Nat} {n f b rd sc : Nat} (h : ¬ (b < n ∧ stop b = false)) : es_go stop Le Lo n f b rd sc = (rd, sc) := by
  cases f with
  | zero => rfl
  | succ f => rw [es_go, if_neg h]
theorem es_go_fail {stop : Nat → Bool} {Le Lo : Nat → Nat} {n f b rd sc : Nat} (h : b < n) (h1 : stop b = false) (h2 : Le b = 0) (hf : n < f + b) : es_go stop Le Lo n f b rd sc = (rd + Lo b, sc) := by
  cases f with
  | zero => omega
  | succ f => rw [es_go, if_pos ⟨h, h1⟩, if_pos h2]
theorem es_go_step {stop : Nat → Bool} {Le Lo : Nat → Nat} {n f b rd sc : Nat} (h : b < n) (h1 : stop b = false) (h2 : ¬ Le b = 0) (hf : n < f + b) : es_go stop Le Lo n f b rd sc = es_go stop Le Lo n (f - 1) (b + Le b) (rd + Lo b) (sc + 1) ∧ n < f - 1 + (b + Le b) := by
  cases f with
  | zero => omega
  | succ f =>
    rw [es_go, if_pos ⟨h, h1⟩, if_neg h2]
    exact ⟨rfl, by omega⟩
/-- an edit: what stays of the text, in front of it and behind it -/
def es_chg (lk lk' : Nat → Int32) (n n' pl ou cn : Nat) : Prop := n ≤ 400 ∧ n' ≤ 400 ∧ pl + ou ≤ n ∧ n' + ou = n + cn ∧ (∀ j, n ≤ j → lk j = -1) ∧ (∀ j, n' ≤ j → lk' j = -1) ∧ (∀ j, j < pl → lk' j = lk j) ∧ ∀ j k, pl + ou ≤ j → k + ou = j + cn → lk' k = lk j
theorem es_end {lk : Nat → Int32} {n b : Nat} (hn : n ≤ 400) (h : ∀ j, n ≤ j → lk j = -1) : ∃ e, lk (b + e) = -1 ∧ e ≤ 400 ∧ e = n - b := ⟨n - b, h _ (by omega), by omega, rfl⟩
theorem es_pre {ar ki lk lk' : Nat → Int32} {n n' pl ou cn b : Nat} (h : es_chg lk lk' n n' pl ou cn) (hb : b + es_Lo ar lk b ≤ pl) : es_Lo ar lk' b = es_Lo ar lk b ∧ es_Le ar ki lk' b = es_Le ar ki lk b ∧ es_Kd ar ki lk' b = es_Kd ar ki lk b := by
  obtain ⟨h1, h2, h3, h4, h5, h6, h7, h8⟩ := h
  obtain ⟨e, he, hl, -⟩ := es_end (b := b) h1 h5
  exact es_loc he hl (fun k hk => (h7 _ (by omega)).symm)
theorem es_suf {ar ki lk lk' : Nat → Int32} {n n' pl ou cn b b' : Nat} (h : es_chg lk lk' n n' pl ou cn) (hb : pl + ou ≤ b) (hb' : b' + ou = b + cn) : es_Lo ar lk' b' = es_Lo ar lk b ∧ es_Le ar ki lk' b' = es_Le ar ki lk b ∧ es_Kd ar ki lk' b' = es_Kd ar ki lk b := by
  obtain ⟨h1, h2, h3, h4, h5, h6, h7, h8⟩ := h
  obtain ⟨e, he, hl, -⟩ := es_end (b := b) h1 h5
  exact es_loc he hl (fun k hk => (h8 _ _ (by omega) (by omega)).symm)
/-- ahead of the first that looked at the place nothing has changed -/
theorem es_B_pre {ar ki lk lk' : Nat → Int32} {n n' pl ou cn fi : Nat} (h : es_chg lk lk' n n' pl ou cn) (hf : ∀ i, i < fi → es_B (es_Le ar ki lk) i + es_Lo ar lk (es_B (es_Le ar ki lk) i) ≤ pl) : ∀ i, i ≤ fi → es_B (es_Le ar ki lk') i = es_B (es_Le ar ki lk) i := by
  intro i
  induction i with
  | zero => intro _; rw [es_B, es_B]
  | succ i ih =>
    intro hi
    rw [es_B, es_B, ih (by omega), (es_pre (ki := ki) h (hf i (by omega))).2.1]
theorem es_B_suf {ar ki lk lk' : Nat → Int32} {n n' pl ou cn m k : Nat} (h : es_chg lk lk' n n' pl ou cn) (hk : pl + ou ≤ es_B (es_Le ar ki lk) k) (hm : es_B (es_Le ar ki lk') m + ou = es_B (es_Le ar ki lk) k + cn) : ∀ j, es_B (es_Le ar ki lk') (m + j) + ou = es_B (es_Le ar ki lk) (k + j) + cn ∧ pl + ou ≤ es_B (es_Le ar ki lk) (k + j) := by
  intro j
  induction j with
  | zero => exact ⟨hm, hk⟩
  | succ j ih =>
    obtain ⟨h1, h2⟩ := ih
    have h3 := (es_suf (ar := ar) (ki := ki) h h2 h1).2.1
    rw [← Nat.add_assoc, ← Nat.add_assoc, es_B, es_B, h3]
    omega
/-- what came out of the first m is known; from there on the old ones stay, moved -/
theorem es_cnt_suf {ar ki lk lk' : Nat → Int32} {n n' pl ou cn m k c : Nat} (h : es_chg lk lk' n n' pl ou cn) (hc : es_cnt (es_Le ar ki lk) n c) (hk : k < c) (hb : pl + ou ≤ es_B (es_Le ar ki lk) k) (hm : es_B (es_Le ar ki lk') m + ou = es_B (es_Le ar ki lk) k + cn) (h1 : ∀ i, i < m → es_B (es_Le ar ki lk') i < n' ∧ 0 < es_Le ar ki lk' (es_B (es_Le ar ki lk') i)) : es_cnt (es_Le ar ki lk') n' (m + (c - k)) := by
  have hs := es_B_suf (ar := ar) (ki := ki) h hb hm
  have hle : ∀ j, es_Le ar ki lk' (es_B (es_Le ar ki lk') (m + j)) = es_Le ar ki lk (es_B (es_Le ar ki lk) (k + j)) := fun j => (es_suf (ar := ar) (ki := ki) h (hs j).2 (hs j).1).2.1
  have hn := h.2.2.2.1
  refine ⟨fun i hi => ?_, fun i hi => ?_, Or.inr ⟨by omega, ?_⟩⟩
  · rcases Nat.lt_or_ge i m with h2 | h2
    · exact (h1 i h2).1
    · have e := (hs (i - m)).1
      rw [show m + (i - m) = i by omega] at e
      have := hc.1 (k + (i - m)) (by omega)
      omega
  · rcases Nat.lt_or_ge i m with h2 | h2
    · exact (h1 i h2).2
    · have e := hle (i - m)
      rw [show m + (i - m) = i by omega] at e
      rw [e]
      exact hc.2.1 (k + (i - m)) (by omega)
  · rcases hc.2.2 with ⟨h2, h3⟩ | ⟨h2, h3 | h3⟩
    · omega
    · left
      have e := hle (c - 1 - k)
      rw [show m + (c - 1 - k) = m + (c - k) - 1 by omega, show k + (c - 1 - k) = c - 1 by omega] at e
      rw [e]; exact h3
    · right
      have e := (hs (c - k)).1
      rw [show k + (c - k) = c by omega, h3] at e
      omega

