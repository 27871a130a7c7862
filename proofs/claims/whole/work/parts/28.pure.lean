theorem es_edit_eq {α β : Type} {a1 a0 : α} {b1 b0 : β} {ar ki tx mx tx1 mx1 : Nat → Int32} {n n1 n2 cc c1 tn tn1 gn gn1 rd sc ed rd1 sc1 ed1 rd2 sc2 ed2 : Nat} {F F1 G G1 M M1 : Nat → Nat → Int32} {fl fk fl1 fk1 : Int32} {ob ob1 : Nat → Int32} {ot of_ os_ ot1 of1 os1 ts tkd tl ts1 tk1 tl1 x y z rC rM : Int32} {sy : Int64} (h : es_inv ar ki tx mx n F cc M tn fl fk)
    (hC : (¬ es_okE n x y z sy ∧ rC = -1 ∧ (a1, b1, tx1, n1, F1, c1, G1, gn1, rd1, sc1, ed1) = (a0, b0, tx, n, F, cc, G, gn, rd, sc, ed)) ∨ (es_okE n x y z sy ∧ es_cnt (es_Le ar ki (es_lk tx1 n1)) n1 c1 ∧ es_fnd ar ki (es_lk tx1 n1) F1 c1 ∧ rC = nI rd1 ∧ ed1 = ed + 1 ∧ es_edP ar ki tx n cc x y sy z tx1 n1 (rd1, sc1)))
    (hM : (¬ es_okE n x y z sy ∧ rM = -1 ∧ (mx1, n2, M1, tn1, fl1, fk1, ob1, ot1, of1, os1, rd2, sc2, ed2, ts1, tk1, tl1) = (mx, n, M, tn, fl, fk, ob, ot, of_, os_, rd, sc, ed, ts, tkd, tl)) ∨ (es_okE n x y z sy ∧ (∃ c, es_mdl ar ki (es_lk mx1 n2) n2 c M1 tn1 fl1 fk1) ∧ rM = nI rd2 ∧ ed2 = ed + 1 ∧ es_edP ar ki mx n cc x y sy z mx1 n2 (rd2, sc2))) :
    rC = rM ∧ n2 = n1 ∧ rd2 = rd1 ∧ sc2 = sc1 ∧ ed2 = ed1 ∧ es_inv ar ki tx1 mx1 n1 F1 c1 M1 tn1 fl1 fk1 := by
  rcases hC with ⟨h1, h2, h3⟩ | ⟨h1, h2, h3, h4, h5, h6⟩ <;> rcases hM with ⟨g1, g2, g3⟩ | ⟨g1, g2, g3, g4, g5⟩
  · simp only [Prod.mk.injEq] at h3 g3
    obtain ⟨-, -, rfl, rfl, rfl, rfl, -, -, rfl, rfl, rfl⟩ := h3
    obtain ⟨rfl, rfl, rfl, rfl, rfl, rfl, -, -, -, -, rfl, rfl, rfl, -, -, -⟩ := g3
    exact ⟨h2.trans g2.symm, rfl, rfl, rfl, rfl, h⟩
  · exact absurd g1 h1
  · exact absurd h1 g1
  · obtain ⟨e1, e2, e3⟩ := es_both h h2 h3 h6 g2 g5
    obtain ⟨e4, e5⟩ := Prod.mk.inj e2
    exact ⟨by rw [h4, g3, e4], e1, e4, e5, by rw [g4, h5], e3⟩

