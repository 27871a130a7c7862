-- ===== an edit, whole =====
abbrev es_okE (n : Nat) (x y z : Int32) (sy : Int64) : Prop := es_can n x y z ∧ ∀ j, j < z.toNatClampNeg → es_dg sy j < 10
/-- what an edit reads and scans anew -/
def es_rs (ar ki lk lk' : Nat → Int32) (n n' c pl ou cn : Nat) (T : Nat × Nat) : Prop := ∃ fi, fi ≤ c ∧ (∀ i, i < fi → es_B (es_Le ar ki lk) i + es_Lo ar lk (es_B (es_Le ar ki lk) i) ≤ pl) ∧ (fi < c → pl < es_B (es_Le ar ki lk) fi + es_Lo ar lk (es_B (es_Le ar ki lk) fi)) ∧
  ((fi < c ∨ n = 0) → T = es_go (es_stop (es_B (es_Le ar ki lk)) c pl ou cn) (es_Le ar ki lk') (es_Lo ar lk') n' (n' + 1) (es_B (es_Le ar ki lk) fi) 0 0) ∧ (¬ (fi < c ∨ n = 0) → T = (0, 0))
theorem es_rs_eq {ar ki lk lk' : Nat → Int32} {n n' c pl ou cn : Nat} {T T' : Nat × Nat} (h : es_rs ar ki lk lk' n n' c pl ou cn T) (h' : es_rs ar ki lk lk' n n' c pl ou cn T') : T = T' := by
  obtain ⟨f, h1, h2, h3, h4, h5⟩ := h
  obtain ⟨f', h1', h2', h3', h4', h5'⟩ := h'
  have e : f = f' := by
    rcases Nat.lt_trichotomy f f' with h6 | h6 | h6
    · have := h2' f h6; have := h3 (by omega); omega
    · exact h6
    · have := h2 f' h6; have := h3' (by omega); omega
  subst e
  by_cases hz : f < c ∨ n = 0
  · rw [h4 hz, h4' hz]
  · rw [h5 hz, h5' hz]
def es_edP (ar ki : Nat → Int32) (tx : Nat → Int32) (n c : Nat) (x y : Int32) (sy : Int64) (z : Int32) (tx' : Nat → Int32) (n' : Nat) (T : Nat × Nat) : Prop := ∃ pl ou cn, x = nI pl ∧ y = nI ou ∧ z = nI cn ∧ pl + ou ≤ n ∧ cn ≤ 16 ∧ n' = n - ou + cn ∧ n' ≤ 400 ∧ (∀ j, j < cn → es_dg sy j < 10) ∧ es_rep tx tx' n pl ou sy cn ∧ es_rs ar ki (es_lk tx n) (es_lk tx' n') n n' c pl ou cn T
theorem es_chg_of {tx ux : Nat → Int32} {n pl ou cn : Nat} {sy : Int64} (hn : n ≤ 400) (h1 : pl + ou ≤ n) (h3 : n - ou + cn ≤ 400) (h : es_rep tx ux n pl ou sy cn) : es_chg (es_lk tx n) (es_lk ux (n - ou + cn)) n (n - ou + cn) pl ou cn := by
  refine ⟨hn, h3, h1, by omega, fun j hj => es_lk_end hj, fun j hj => es_lk_end hj, fun j hj => ?_, fun j k hj hk => ?_⟩
  · unfold es_lk
    rw [if_pos (by omega), if_pos (by omega)]
    exact h.1 j hj
  · unfold es_lk
    rcases Nat.lt_or_ge j n with h4 | h4
    · rw [if_pos (by omega), if_pos h4, ← h.2.2 j hj h4]
      congr 1
      omega
    · rw [if_neg (by omega), if_neg (by omega)]
theorem es_sy_of {tx ux : Nat → Int32} {n pl ou cn : Nat} {sy : Int64} (hs : es_sy (es_lk tx n)) (h1 : pl + ou ≤ n) (h : es_rep tx ux n pl ou sy cn) (hd : ∀ j, j < cn → es_dg sy j < 10) : es_sy (es_lk ux (n - ou + cn)) := by
  intro j
  unfold es_lk
  rcases Nat.lt_or_ge j (n - ou + cn) with h2 | h2
  · rw [if_pos h2]
    rcases Nat.lt_or_ge j pl with h3 | h3
    · rw [h.1 j h3]
      have h4 := hs j
      unfold es_lk at h4
      rwa [if_pos (by omega)] at h4
    · rcases Nat.lt_or_ge j (pl + cn) with h5 | h5
      · have h6 := h.2.1 (j - pl) (by omega)
        rw [show pl + (j - pl) = j by omega] at h6
        exact Or.inr ⟨_, hd (cn - 1 - (j - pl)) (by omega), h6⟩
      · have h6 := h.2.2 (j + ou - cn) (by omega) (by omega)
        rw [show j + ou - cn - ou + cn = j by omega] at h6
        rw [h6]
        have h4 := hs (j + ou - cn)
        unfold es_lk at h4
        rwa [if_pos (by omega)] at h4
  · rw [if_neg (by omega)]; exact Or.inl rfl
theorem es_Lo_le {ar tx : Nat → Int32} {n b : Nat} (hn : n ≤ 400) : es_Lo ar (es_lk tx n) b ≤ 401 := by
  have := (es_Lo_is (ar := ar) (lk := es_lk tx n) (b := b) (e := n - b) (es_lk_end (by omega)) (by omega)).2.1
  omega
theorem es_fi1 {ar ki tx : Nat → Int32} {F : Nat → Nat → Int32} {n c fi pl : Nat} (hF : es_fnd ar ki (es_lk tx n) F c) (hc : es_cnt (es_Le ar ki (es_lk tx n)) n c) (hn : n ≤ 400) (hp : pl ≤ 400) (hfi : fi ≤ c) (h : ∀ j, j < fi → ¬ nI pl < F 0 j + F 3 j) : ∀ i, i < fi → es_B (es_Le ar ki (es_lk tx n)) i + es_Lo ar (es_lk tx n) (es_B (es_Le ar ki (es_lk tx n)) i) ≤ pl := by
  intro i hi
  have h1 := h i hi
  obtain ⟨e0, -, -, e3⟩ := hF i (by omega)
  have hb := hc.1 i (by omega)
  have hl := es_Lo_le (ar := ar) (tx := tx) (b := es_B (es_Le ar ki (es_lk tx n)) i) hn
  rw [e0, e3, nI_add, nI_ltI (by omega) (by omega)] at h1
  omega
theorem es_fi2 {ar ki tx : Nat → Int32} {F : Nat → Nat → Int32} {n c fi pl : Nat} (hF : es_fnd ar ki (es_lk tx n) F c) (hc : es_cnt (es_Le ar ki (es_lk tx n)) n c) (hn : n ≤ 400) (hp : pl ≤ 400) (h : fi < c → nI pl < F 0 fi + F 3 fi) : fi < c → pl < es_B (es_Le ar ki (es_lk tx n)) fi + es_Lo ar (es_lk tx n) (es_B (es_Le ar ki (es_lk tx n)) fi) := by
  intro hi
  have h1 := h hi
  obtain ⟨e0, -, -, e3⟩ := hF fi hi
  have hb := hc.1 fi hi
  have hl := es_Lo_le (ar := ar) (tx := tx) (b := es_B (es_Le ar ki (es_lk tx n)) fi) hn
  rw [e0, e3, nI_add, nI_ltI (by omega) (by omega)] at h1
  exact h1
/-- nothing looked at the place: all stays -/
theorem es_keep {ar ki lk lk' : Nat → Int32} {F : Nat → Nat → Int32} {n n' pl ou cn c : Nat} (h : es_chg lk lk' n n' pl ou cn) (hc : es_cnt (es_Le ar ki lk) n c) (hF : es_fnd ar ki lk F c) (h0 : ¬ n = 0) (hf : ∀ i, i < c → es_B (es_Le ar ki lk) i + es_Lo ar lk (es_B (es_Le ar ki lk) i) ≤ pl) : es_cnt (es_Le ar ki lk') n' c ∧ es_fnd ar ki lk' F c := by
  have hb := es_B_pre (ar := ar) (ki := ki) h hf
  have hp : ∀ i, i < c → es_Le ar ki lk' (es_B (es_Le ar ki lk') i) = es_Le ar ki lk (es_B (es_Le ar ki lk) i) := fun i hi => by rw [hb i (by omega), (es_pre (ki := ki) h (hf i hi)).2.1]
  refine ⟨⟨fun i hi => ?_, fun i hi => ?_, ?_⟩, es_fnd_pre h hF (Nat.le_refl c) hf (fun _ _ _ _ => rfl)⟩
  · rw [hb i (by omega)]
    have := hf i hi
    have := es_Lo_pos (ar := ar) (b := es_B (es_Le ar ki lk) i) h.1 h.2.2.2.2.1
    have := h.2.2.1; have := h.2.2.2.1
    omega
  · rw [hp i (by omega)]; exact hc.2.1 i hi
  · rcases hc.2.2 with ⟨h1, h2⟩ | ⟨h1, h2 | h2⟩
    · omega
    · right
      refine ⟨h1, Or.inl ?_⟩
      rw [hp (c - 1) (by omega)]; exact h2
    · exfalso
      have h3 := hf (c - 1) (by omega)
      obtain ⟨e, he, hl, -⟩ := es_end (b := es_B (es_Le ar ki lk) (c - 1)) h.1 h.2.2.2.2.1
      have h4 := (es_Le_lt (ar := ar) (ki := ki) he hl).1
      obtain ⟨k, rfl⟩ : ∃ k, c = k + 1 := ⟨c - 1, by omega⟩
      rw [es_B] at h2
      have := h.2.2.1
      rw [Nat.add_sub_cancel] at h3 h4
      omega

