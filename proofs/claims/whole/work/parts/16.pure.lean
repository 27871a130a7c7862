theorem es_fnd_pre {ar ki lk lk' : Nat → Int32} {G E : Nat → Nat → Int32} {n n' pl ou cn c fi : Nat} (h : es_chg lk lk' n n' pl ou cn) (hG : es_fnd ar ki lk G c) (hfi : fi ≤ c) (hf : ∀ i, i < fi → es_B (es_Le ar ki lk) i + es_Lo ar lk (es_B (es_Le ar ki lk) i) ≤ pl) (hE : ∀ a, a < 4 → ∀ j, j < fi → E a j = G a j) : es_fnd ar ki lk' E fi := by
  intro i hi
  obtain ⟨g0, g1, g2, g3⟩ := hG i (by omega)
  have hb := es_B_pre (ar := ar) (ki := ki) h hf i (by omega)
  obtain ⟨t1, t2, t3⟩ := es_pre (ki := ki) h (hf i hi)
  rw [hE 0 (by omega) i hi, hE 1 (by omega) i hi, hE 2 (by omega) i hi, hE 3 (by omega) i hi, g0, g1, g2, g3, hb, t1, t2, t3]
  exact ⟨rfl, rfl, rfl, rfl⟩
theorem es_Lo_pos {ar lk : Nat → Int32} {n b : Nat} (hn : n ≤ 400) (h : ∀ j, n ≤ j → lk j = -1) : 1 ≤ es_Lo ar lk b := by
  obtain ⟨e, he, hl, -⟩ := es_end (b := b) hn h
  exact (es_Lo_is he hl).2.2
theorem es_nb_pre {ar ki lk : Nat → Int32} {G E : Nat → Nat → Int32} {c fi : Nat} (hG : es_fnd ar ki lk G c) (hfi : fi ≤ c) (hE : ∀ a, a < 4 → ∀ j, j < fi → E a j = G a j) : (if 0 < fi then E 0 (fi - 1) + E 1 (fi - 1) else 0) = nI (es_B (es_Le ar ki lk) fi) := by
  rcases Nat.eq_zero_or_pos fi with h0 | h0
  · rw [if_neg (by omega), h0, es_B]; rfl
  · rw [if_pos h0, hE 0 (by omega) _ (by omega), hE 1 (by omega) _ (by omega), (hG (fi - 1) (by omega)).1, (hG (fi - 1) (by omega)).2.1, nI_add]
    congr 1
    obtain ⟨k, rfl⟩ : ∃ k, fi = k + 1 := ⟨fi - 1, by omega⟩
    rw [es_B]; rfl
theorem es_tok_pre {ar ki lk lk' : Nat → Int32} {n n' pl ou cn c fi : Nat} (h : es_chg lk lk' n n' pl ou cn) (hc : es_cnt (es_Le ar ki lk) n c) (hfs : fi < c ∨ c = 0) (hf : ∀ i, i < fi → es_B (es_Le ar ki lk) i + es_Lo ar lk (es_B (es_Le ar ki lk) i) ≤ pl) : ∀ i, i < fi → es_B (es_Le ar ki lk') i < n' ∧ 0 < es_Le ar ki lk' (es_B (es_Le ar ki lk') i) := by
  intro i hi
  have hb := es_B_pre (ar := ar) (ki := ki) h hf i (by omega)
  obtain ⟨t1, t2, t3⟩ := es_pre (ki := ki) h (hf i hi)
  obtain ⟨h1, h2, h3, h4, h5, h6, h7, h8⟩ := h
  have hp := es_Lo_pos (ar := ar) (b := es_B (es_Le ar ki lk) i) h1 h5
  have hq := hf i hi
  rw [hb, t2]
  refine ⟨by omega, ?_⟩
  rcases hfs with h9 | h9
  · exact hc.2.1 i (by omega)
  · exfalso
    have := hc.2.2
    have := hc.1 0
    rcases hc.2.2 with ⟨-, hz⟩ | ⟨hz, -⟩ <;> omega
theorem es_B_fi {ar ki lk lk' : Nat → Int32} {n n' pl ou cn fi : Nat} (h : es_chg lk lk' n n' pl ou cn) (hf : ∀ i, i < fi → es_B (es_Le ar ki lk) i + es_Lo ar lk (es_B (es_Le ar ki lk) i) ≤ pl) : es_B (es_Le ar ki lk) fi ≤ pl ∧ es_B (es_Le ar ki lk) fi ≤ n' := by
  obtain ⟨h1, h2, h3, h4, h5, h6, h7, h8⟩ := h
  rcases Nat.eq_zero_or_pos fi with h0 | h0
  · rw [h0, es_B]; omega
  · obtain ⟨k, rfl⟩ : ∃ k, fi = k + 1 := ⟨fi - 1, by omega⟩
    have hq := hf k (by omega)
    obtain ⟨e, he, hl, -⟩ := es_end (b := es_B (es_Le ar ki lk) k) h1 h5
    have := (es_Le_lt (ar := ar) (ki := ki) he hl).1
    rw [es_B]; omega

