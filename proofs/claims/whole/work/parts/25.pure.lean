theorem es_d10 {d : Nat} (hd : d < 16) : 0 ≤ lg_cmp (lN d) (10 : Int64) ↔ ¬ d < 10 := by
  rw [lg_cmp_ge, show (10 : Int64) = lN 10 from rfl, lN_le (by omega) (by omega)]
  omega
theorem es_km {k : Nat} (hk : k < 2 ^ 30) : nI k - nI 1 < 0 ↔ k = 0 := by
  rw [Int32.lt_iff_toInt_lt, pk_sub_toInt hk (by omega), es_n0]
  omega
theorem es_dec {k : Nat} (h : 0 < k) : nI k - nI 1 + (-1) = nI (k - 1) - nI 1 := by
  have e : nI k = nI (k - 1) + nI 1 := by rw [nI_add]; congr 1; omega
  rw [e]
  show nI (k - 1) + (1 : Int32) - 1 + (-1) = nI (k - 1) - 1
  generalize nI (k - 1) = x
  grind
/-- where the model's search for the first stands: k and those behind it have been looked at -/
def es_sta (ar ki lk : Nat → Int32) (n c pl k : Nat) (st : Int32) : Prop := ∃ fi, k ≤ fi ∧ fi ≤ c ∧ (∀ i, k ≤ i → i < fi → es_B (es_Le ar ki lk) i + es_Lo ar lk (es_B (es_Le ar ki lk) i) ≤ pl) ∧ ((fi < c ∧ pl < es_B (es_Le ar ki lk) fi + es_Lo ar lk (es_B (es_Le ar ki lk) fi) ∧ st = nI (es_B (es_Le ar ki lk) fi)) ∨ (fi = c ∧ st = if n = 0 then 0 else -1))
theorem es_s0 {n : Nat} (h : n = 0) : nI 0 = if n = 0 then 0 else -1 := by rw [if_pos h]; rfl
theorem es_s1 {n : Nat} (h : ¬ n = 0) : -1 = if n = 0 then (0 : Int32) else -1 := by rw [if_neg h]
theorem es_sta_A {ar ki mx : Nat → Int32} {M : Nat → Nat → Int32} {n c tn pl : Nat} {fl fk st : Int32} (hn : n ≤ 400) (h : es_mdl ar ki (es_lk mx n) n c M tn fl fk) (h1 : fl < 0) (hs : st = if n = 0 then 0 else -1) : es_sta ar ki (es_lk mx n) n c pl tn st := by
  obtain ⟨hc, hF, ht, h2⟩ := h
  rcases h2 with ⟨h3, h4, -⟩ | ⟨h3, -, -⟩
  · have := hc.1 tn (by omega)
    rw [h4] at h1; exact absurd h1 (nI_pos (by omega))
  · exact ⟨c, by omega, Nat.le_refl c, fun i h4 h5 => by omega, Or.inr ⟨rfl, hs⟩⟩
theorem es_sta_BC {ar ki mx : Nat → Int32} {M : Nat → Nat → Int32} {n c tn pl : Nat} {fl fk : Int32} (hn : n ≤ 400) (hp : pl ≤ 400) (h : es_mdl ar ki (es_lk mx n) n c M tn fl fk) (h1 : ¬ fl < 0) : tn + 1 = c ∧ fl = nI (es_B (es_Le ar ki (es_lk mx n)) tn) ∧ (fl + fk ≤ nI pl ↔ es_B (es_Le ar ki (es_lk mx n)) tn + es_Lo ar (es_lk mx n) (es_B (es_Le ar ki (es_lk mx n)) tn) ≤ pl) := by
  obtain ⟨hc, hF, ht, h2⟩ := h
  rcases h2 with ⟨h3, h4, h5⟩ | ⟨h3, h4, -⟩
  · have hb := hc.1 tn (by omega)
    have hl := es_Lo_le (ar := ar) (tx := mx) (b := es_B (es_Le ar ki (es_lk mx n)) tn) hn
    refine ⟨h3, h4, ?_⟩
    rw [h4, h5, nI_add, nI_leI (by omega) (by omega)]
  · rw [h4] at h1; exact absurd (by decide) h1
theorem es_sta_B {ar ki mx : Nat → Int32} {M : Nat → Nat → Int32} {n c tn pl : Nat} {fl fk st : Int32} (hn : n ≤ 400) (hp : pl ≤ 400) (h : es_mdl ar ki (es_lk mx n) n c M tn fl fk) (h1 : ¬ fl < 0) (h2 : fl + fk ≤ nI pl) (hs : st = if n = 0 then 0 else -1) : es_sta ar ki (es_lk mx n) n c pl tn st := by
  obtain ⟨h3, h4, h5⟩ := es_sta_BC hn hp h h1
  refine ⟨c, by omega, Nat.le_refl c, fun i h6 h7 => ?_, Or.inr ⟨rfl, hs⟩⟩
  rw [show i = tn by omega]
  exact h5.mp h2
theorem es_sta_C {ar ki mx : Nat → Int32} {M : Nat → Nat → Int32} {n c tn pl : Nat} {fl fk : Int32} (hn : n ≤ 400) (hp : pl ≤ 400) (h : es_mdl ar ki (es_lk mx n) n c M tn fl fk) (h1 : ¬ fl < 0) (h2 : ¬ fl + fk ≤ nI pl) : es_sta ar ki (es_lk mx n) n c pl tn fl := by
  obtain ⟨h3, h4, h5⟩ := es_sta_BC hn hp h h1
  refine ⟨tn, Nat.le_refl _, by omega, fun i h6 h7 => by omega, Or.inl ⟨by omega, ?_, h4⟩⟩
  have := mt h5.mpr h2
  omega
theorem es_sta_s {ar ki mx : Nat → Int32} {M : Nat → Nat → Int32} {n c tn pl k : Nat} {fl fk : Int32} (hn : n ≤ 400) (hp : pl ≤ 400) (h : es_mdl ar ki (es_lk mx n) n c M tn fl fk) (hk : k ≤ tn) (h0 : 0 < k) : k - 1 < c ∧ M 0 (k - 1) = nI (es_B (es_Le ar ki (es_lk mx n)) (k - 1)) ∧ (M 0 (k - 1) + M 3 (k - 1) ≤ nI pl ↔ es_B (es_Le ar ki (es_lk mx n)) (k - 1) + es_Lo ar (es_lk mx n) (es_B (es_Le ar ki (es_lk mx n)) (k - 1)) ≤ pl) := by
  obtain ⟨hc, hF, ht, h2⟩ := h
  have htc : tn ≤ c := by rcases h2 with ⟨h3, -⟩ | ⟨h3, -⟩ <;> omega
  obtain ⟨e0, -, -, e3⟩ := hF (k - 1) (by omega)
  have hb := hc.1 (k - 1) (by omega)
  have hl := es_Lo_le (ar := ar) (tx := mx) (b := es_B (es_Le ar ki (es_lk mx n)) (k - 1)) hn
  refine ⟨by omega, e0, ?_⟩
  rw [e0, e3, nI_add, nI_leI (by omega) (by omega)]
theorem es_sta_Y {ar ki mx : Nat → Int32} {M : Nat → Nat → Int32} {n c tn pl k : Nat} {fl fk st : Int32} (hn : n ≤ 400) (hp : pl ≤ 400) (h : es_mdl ar ki (es_lk mx n) n c M tn fl fk) (hk : k ≤ tn) (h0 : 0 < k) (_hs : es_sta ar ki (es_lk mx n) n c pl k st) (h2 : ¬ M 0 (k - 1) + M 3 (k - 1) ≤ nI pl) : es_sta ar ki (es_lk mx n) n c pl (k - 1) (M 0 (k - 1)) := by
  obtain ⟨h3, h4, h5⟩ := es_sta_s hn hp h hk h0
  refine ⟨k - 1, Nat.le_refl _, by omega, fun i h6 h7 => by omega, Or.inl ⟨h3, ?_, h4⟩⟩
  have := mt h5.mpr h2
  omega
theorem es_sta_N {ar ki mx : Nat → Int32} {M : Nat → Nat → Int32} {n c tn pl k : Nat} {fl fk st : Int32} (hn : n ≤ 400) (hp : pl ≤ 400) (h : es_mdl ar ki (es_lk mx n) n c M tn fl fk) (hk : k ≤ tn) (h0 : 0 < k) (hs : es_sta ar ki (es_lk mx n) n c pl k st) (h2 : M 0 (k - 1) + M 3 (k - 1) ≤ nI pl) : es_sta ar ki (es_lk mx n) n c pl (k - 1) st := by
  obtain ⟨h3, h4, h5⟩ := es_sta_s hn hp h hk h0
  obtain ⟨fi, g1, g2, g3, g4⟩ := hs
  refine ⟨fi, by omega, g2, fun i h6 h7 => ?_, g4⟩
  by_cases e : i = k - 1
  · rw [e]; exact h5.mp h2
  · exact g3 i (by omega) h7
theorem es_start {ar ki lk : Nat → Int32} {n c pl : Nat} {st : Int32} (hn : n ≤ 400) (hc : es_cnt (es_Le ar ki lk) n c) (h : es_sta ar ki lk n c pl 0 st) (h1 : ¬ st < 0) : ∃ fi, fi ≤ c ∧ (∀ i, i < fi → es_B (es_Le ar ki lk) i + es_Lo ar lk (es_B (es_Le ar ki lk) i) ≤ pl) ∧ (fi < c → pl < es_B (es_Le ar ki lk) fi + es_Lo ar lk (es_B (es_Le ar ki lk) fi)) ∧ (fi < c ∨ n = 0) ∧ st = nI (es_B (es_Le ar ki lk) fi) := by
  obtain ⟨fi, -, g2, g3, g4⟩ := h
  rcases g4 with ⟨h2, h3, h4⟩ | ⟨h2, h3⟩
  · exact ⟨fi, g2, fun i hi => g3 i (Nat.zero_le _) hi, fun _ => h3, Or.inl h2, h4⟩
  · by_cases h0 : n = 0
    · have hcn := es_cnt_n hc
      have e : fi = 0 := by omega
      subst e
      refine ⟨0, g2, fun i hi => absurd hi (Nat.not_lt_zero _), fun hz => by omega, Or.inr h0, ?_⟩
      rw [h3, if_pos h0, es_B]; rfl
    · rw [h3, if_neg h0] at h1; exact absurd (by decide) h1
theorem es_nostart {ar ki lk : Nat → Int32} {n c pl : Nat} {st : Int32} (hn : n ≤ 400) (hc : es_cnt (es_Le ar ki lk) n c) (h : es_sta ar ki lk n c pl 0 st) (h1 : st < 0) : (∀ i, i < c → es_B (es_Le ar ki lk) i + es_Lo ar lk (es_B (es_Le ar ki lk) i) ≤ pl) ∧ ¬ n = 0 := by
  obtain ⟨fi, -, g2, g3, g4⟩ := h
  rcases g4 with ⟨h2, h3, h4⟩ | ⟨h2, h3⟩
  · have := hc.1 fi h2
    rw [h4] at h1; exact absurd h1 (nI_pos (by omega))
  · refine ⟨fun i hi => g3 i (Nat.zero_le _) (by omega), fun h0 => ?_⟩
    rw [h3, if_pos h0] at h1; exact absurd h1 (by decide)
theorem es_old_of {ar ki lk : Nat → Int32} {M : Nat → Nat → Int32} {V : Nat → Int32} {n c tn : Nat} {fl fk : Int32} (h : es_mdl ar ki lk n c M tn fl fk) (hV : ∀ j, j < tn → V j = M 0 j) : es_old ar ki lk n c V tn fl := by
  obtain ⟨hc, hF, ht, h2⟩ := h
  refine ⟨hc, fun j hj => by rw [hV j hj, (hF j hj).1], ?_⟩
  rcases h2 with ⟨h3, h4, -⟩ | ⟨h3, h4, -⟩
  · exact Or.inl ⟨h3, h4⟩
  · exact Or.inr ⟨h3, h4⟩
theorem es_mdl_tn {ar ki lk : Nat → Int32} {M : Nat → Nat → Int32} {n c tn : Nat} {fl fk : Int32} (h : es_mdl ar ki lk n c M tn fl fk) : tn ≤ n := by
  have h1 := es_cnt_n h.1
  rcases h.2.2.2 with ⟨h3, -⟩ | ⟨h3, -⟩ <;> omega
theorem es_cp_s {V f : Nat → Int32} {i : Nat} (h : ∀ j, j < i → V j = f j) : ∀ j, j < i + 1 → upd V i (f i) j = f j := fun j hj => by
  by_cases e : j = i
  · rw [e]; exact pk_us
  · rw [pk_un e]; exact h j (by omega)

