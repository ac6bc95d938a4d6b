/-! The two side by side: the text, the dyke. -/
section RED
variable {t : Nat} {V V1 V2 V3 : g_V} {S : g_L}
theorem R_text {m : Nat} (h : R t V S) (hc : ∀ c, c ≠ 1 → c ≠ 2 → c ≠ 201 → c ≠ 202 → V3 c = V c) (h1 : V3 1 1 = m) (h2 : ∀ k, k ≠ 2 → V3 201 k = V 201 k) (h22 : V3 201 2 = m) (hm : m ≤ 48) (hL : V3 202 = V3 2) (hb : ∀ i, i < 48 → V3 2 i ≤ 255) : R (t + 1) V3 S := by
  obtain ⟨⟨⟨a1, a2, a3, a4⟩, ⟨b1, b2, b3, b4, b5⟩, b6⟩, ⟨c1, c2⟩, ⟨d1, d2⟩, ⟨k1, k2⟩, k3, e⟩ := h
  have hqo : ∀ i, i < 17 → g_hq V3 i V i := fun i q2 => g_hq_of fun r hr => hc _ (by unfold hB; omega) (by unfold hB; omega) (by unfold hB; omega) (by unfold hB; omega)
  have l0 := hc 0 (by decide) (by decide) (by decide) (by decide)
  have l3 := hc 3 (by decide) (by decide) (by decide) (by decide)
  have l4 := hc 4 (by decide) (by decide) (by decide) (by decide)
  have l5 := hc 5 (by decide) (by decide) (by decide) (by decide)
  have g3 := hc 203 (by decide) (by decide) (by decide) (by decide)
  have g4 := hc 204 (by decide) (by decide) (by decide) (by decide)
  have g5 := hc 205 (by decide) (by decide) (by decide) (by decide)
  have g7 := hc 207 (by decide) (by decide) (by decide) (by decide)
  have g9 := hc 209 (by decide) (by decide) (by decide) (by decide)
  have g10 := hc 210 (by decide) (by decide) (by decide) (by decide)
  have g11 := hc 211 (by decide) (by decide) (by decide) (by decide)
  refine ⟨⟨⟨by rw [h2 0 (by decide)]; exact a1, by rw [h2 4 (by decide), l0]; exact a2, by rw [h22, h1], by rw [h2 14 (by decide), l0]; exact a4⟩, ⟨by rw [l0]; exact b1, by omega, by rw [l0]; exact b3, by rw [l0]; exact b4, by rw [l0]; exact b5⟩, b6⟩, ⟨hL, hb⟩, ⟨by rw [g3, g4, g5, l3, l4, l5]; exact d1, by unfold g_K; rw [l3, l4, l5]; exact d2⟩, ⟨R_pg_of (hqo 0 (by decide)) (fun k _ => by rw [g7]) k1, fun a ha => ?_⟩, fun k hk => ?_, fun i hi => R_bd_of (hqo i hi) (e i hi) (by omega)⟩
  · rw [l0] at ha ⊢
    have hmd := Nat.mod_lt (V 0 7 + a) (show 0 < 14 by decide)
    exact R_pg_of (hqo _ (by omega)) (fun k _ => by rw [g9]) (k2 a ha)
  · obtain ⟨q1, q2, q3⟩ := k3 k hk
    rw [l0, g11]
    exact ⟨q1, q2, fun q => R_pg_of (hqo (15 + k) (by omega)) (fun i _ => by rw [g10]) (q3 q)⟩
theorem R_wipe (h : R t V S) (ht : t < 800)  {r : Option Value} {V1 : g_V} {S1 : g_L} (hD : r = some (.int (nI (V 1 1))) ∧ V1 = g_up V 1 1 0 ∧ S1 = S) : ∃ a9, r = some (.int a9) ∧ (M_OK V1) ∧ ∀ (r' : Option Value) (V3 : g_V) (S3 : g_L), (r' = some (.int (nI (V1 201 2))) ∧ V3 = g_up V1 201 2 0 ∧ S3 = S1) → r' = some (.int a9) ∧ R (t + 1) V3 S3 := by
  obtain ⟨rfl, e2, rfl⟩ := hD
  have hi : ∀ c, c ≠ 1 → V1 c = V c := fun c q => by rw [e2, g_up_ne q]
  have hM : M_OK V1 := M_OK_of (R_mok h (by omega)) (hi 201 (by decide)) (hi 203 (by decide)) (hi 204 (by decide)) (hi 205 (by decide)) (hi 207 (by decide))
  refine ⟨_, rfl, hM, ?_⟩
  rintro r' V3 S3 ⟨e3, e4, rfl⟩
  have hl : ∀ c, c ≠ 201 → V3 c = V1 c := fun c q => by rw [e4, g_up_ne q]
  refine ⟨by rw [e3, hi 201 (by decide), h.1.1.2.2.1], R_text (m := 0) h (fun c q1 q2 q3 q4 => by rw [hl c q3, hi c q1]) (by rw [hl 1 (by decide), e2, g_upS]) (fun k hk => by rw [e4, g_upK hk, hi 201 (by decide)]) (by rw [e4, g_upS]) (by decide) (by rw [hl 202 (by decide), hl 2 (by decide), hi 202 (by decide), hi 2 (by decide)]; exact h.2.1.1) (by rw [hl 2 (by decide), hi 2 (by decide)]; exact h.2.1.2)⟩
theorem R_write (h : R t V S) (ht : t < 800) (x : Int32) {r : Option Value} {V1 : g_V} {S1 : g_L} (hD : S1 = S ∧ ((¬ q_in x 256 ∧ r = some (.int (-2)) ∧ V1 = V) ∨ (q_in x 256 ∧ 48 ≤ V 1 1 ∧ r = some (.int (-4)) ∧ V1 = V) ∨ (q_in x 256 ∧ V 1 1 < 48 ∧ r = some (.int (nI (V 1 1 + 1))) ∧ V1 = g_up (g_up V 2 (V 1 1) (q_n x)) 1 1 (V 1 1 + 1)))) : ∃ a9, r = some (.int a9) ∧ (M_OK V1) ∧ ∀ (r' : Option Value) (V3 : g_V) (S3 : g_L), (S3 = S1 ∧ ((¬ q_in x 256 ∧ r' = some (.int (-2)) ∧ V3 = V1) ∨ (q_in x 256 ∧ 48 ≤ V1 201 2 ∧ r' = some (.int (-4)) ∧ V3 = V1) ∨ (q_in x 256 ∧ V1 201 2 < 48 ∧ r' = some (.int (nI (V1 201 2 + 1))) ∧ V3 = g_up (g_up V1 202 (V1 201 2) (q_n x)) 201 2 (V1 201 2 + 1)))) → r' = some (.int a9) ∧ R (t + 1) V3 S3 := by
  obtain ⟨rfl, hq⟩ := hD
  have h2 := h.1.1.2.2.1
  rcases hq with ⟨q, e1, e2⟩ | ⟨q, q2, e1, e2⟩ | ⟨q, q2, e1, e2⟩
  · rw [e2]
    refine ⟨_, e1, R_mok h (by omega), ?_⟩
    rintro r' V3 S3 ⟨rfl, hm⟩
    rcases hm with ⟨m, e3, e4⟩ | ⟨m, _⟩ | ⟨m, _⟩
    · rw [e4]; exact ⟨e3, R_fr h g_fr_0 h.1.2.2 (by omega)⟩
    · exact absurd m q
    · exact absurd m q
  · rw [e2]
    refine ⟨_, e1, R_mok h (by omega), ?_⟩
    rintro r' V3 S3 ⟨rfl, hm⟩
    rw [h2] at hm
    rcases hm with ⟨m, _⟩ | ⟨m, m2, e3, e4⟩ | ⟨m, m2, _⟩
    · exact absurd q m
    · rw [e4]; exact ⟨e3, R_fr h g_fr_0 h.1.2.2 (by omega)⟩
    · omega
  · have hx := q_n_lt q
    have hi : ∀ c, c ≠ 1 → c ≠ 2 → V1 c = V c := fun c q q2 => by rw [e2, g_up_ne q, g_up_ne q2]
    have hM : M_OK V1 := M_OK_of (R_mok h (by omega)) (hi 201 (by decide) (by decide)) (hi 203 (by decide) (by decide)) (hi 204 (by decide) (by decide)) (hi 205 (by decide) (by decide)) (hi 207 (by decide) (by decide))
    refine ⟨_, e1, hM, ?_⟩
    rintro r' V3 S3 ⟨rfl, hm⟩
    rw [hi 201 (by decide) (by decide), h2] at hm
    rcases hm with ⟨m, _⟩ | ⟨m, m2, _⟩ | ⟨m, m2, e3, e4⟩
    · exact absurd q m
    · omega
    · have hl : ∀ c, c ≠ 201 → c ≠ 202 → V3 c = V1 c := fun c q q2 => by rw [e4, g_up_ne q, g_up_ne q2]
      have v2 : V3 2 = g_up V 2 (V 1 1) (q_n x) 2 := by rw [hl 2 (by decide) (by decide), e2, g_up_ne (by decide)]
      have v202 : ∀ k, V3 202 k = if k = V 1 1 then q_n x else V 2 k := fun k => by
        rw [e4, g_up_ne (by decide)]
        by_cases g : k = V 1 1
        · rw [if_pos g, g, g_upS]
        · rw [if_neg g, g_upK g, hi 202 (by decide) (by decide), h.2.1.1]
      have w2 : ∀ k, V3 2 k = if k = V 1 1 then q_n x else V 2 k := fun k => by
        rw [v2]
        by_cases g : k = V 1 1
        · rw [if_pos g, g, g_upS]
        · rw [if_neg g, g_upK g]
      refine ⟨e3, R_text (m := V 1 1 + 1) h (fun c q1 q2 q3 q4 => by rw [hl c q3 q4, hi c q1 q2]) (by rw [hl 1 (by decide) (by decide), e2, g_upS]) (fun k hk => by rw [e4, g_upK hk, g_upN (by decide), hi 201 (by decide) (by decide)]) (by rw [e4, g_upS]) (by omega) (funext fun k => by rw [v202, w2]) (fun i hi48 => ?_)⟩
      rw [w2]
      split
      · omega
      · exact h.2.1.2 i hi48
theorem R_dyke (h : R t V S) (ht : t < 800)  {r : Option Value} {V1 : g_V} {S1 : g_L} (hD : S1 = S ∧ ((¬ (q_fault (V 1 1) (V 2)).1 = none ∧ r = some (.int (-3)) ∧ V1 = V) ∨ ((q_fault (V 1 1) (V 2)).1 = none ∧ r = some (.int (nI (q_fault (V 1 1) (V 2)).2.1)) ∧ g_dy V V1 (q_fault (V 1 1) (V 2)).2.1 (q_fault (V 1 1) (V 2)).2.2.1 (q_fault (V 1 1) (V 2)).2.2.2))) : ∃ a9, r = some (.int a9) ∧ (M_OK V1 ∧ M_T V1) ∧ ∀ (r' : Option Value) (V3 : g_V) (S3 : g_L), (S3 = S1 ∧ ((¬ (q_fault (V1 201 2) (V1 202)).1 = none ∧ r' = some (.int (-3)) ∧ ∃ p f d rf, g_rw V1 V3 p f d rf) ∨ ((q_fault (V1 201 2) (V1 202)).1 = none ∧ r' = some (.int (nI (q_fault (V1 201 2) (V1 202)).2.1)) ∧ M_dy V1 V3 (q_fault (V1 201 2) (V1 202)).2.1 (q_fault (V1 201 2) (V1 202)).2.2.1 (q_fault (V1 201 2) (V1 202)).2.2.2))) → r' = some (.int a9) ∧ R (t + 1) V3 S3 := by
  obtain ⟨rfl, hq⟩ := hD
  have e12 : V 201 2 = V 1 1 := h.1.1.2.2.1
  have e202 : V 202 = V 2 := h.2.1.1
  rcases hq with ⟨q, e1, e2⟩ | ⟨q, e1, hd⟩
  · rw [e2]
    refine ⟨_, e1, ⟨R_mok h (by omega), R_mT h⟩, ?_⟩
    rintro r' V3 S3 ⟨rfl, hm⟩
    rw [e12, e202] at hm
    rcases hm with ⟨m, e3, p, f, d, rf, hw⟩ | ⟨m, _⟩
    · exact ⟨e3, R_fr h (g_fr_2 (fun c h1 h6 _ _ _ => hw.1 c h1 h6) (fun k hk => hw.2.1 k (by omega) (by omega) (by omega))) h.1.2.2 (by omega)⟩
    · exact absurd m q
  · obtain ⟨⟨x1, x2, x3, x4⟩, x5, x6, ⟨x7, x8, x9⟩, ⟨x10, x11, x12⟩, x13, x14⟩ := hd
    have hi : ∀ c, 201 ≤ c → V1 c = V c := fun c q => x14 c (by omega) (by omega) (by omega) (by omega) (Or.inr (by unfold hB; omega))
    have hM : M_OK V1 := M_OK_of (R_mok h (by omega)) (hi 201 (by decide)) (hi 203 (by decide)) (hi 204 (by decide)) (hi 205 (by decide)) (hi 207 (by decide))
    have hMT : M_T V1 := by
      have := R_mT h
      unfold M_T at this ⊢
      rw [hi 201 (by decide), hi 202 (by decide)]
      exact this
    refine ⟨_, e1, ⟨hM, hMT⟩, ?_⟩
    rintro r' V3 S3 ⟨rfl, hm⟩
    rw [hi 201 (by decide), hi 202 (by decide), e12, e202] at hm
    rcases hm with ⟨m, _⟩ | ⟨m, e3, hd2⟩
    · exact absurd q m
    · refine ⟨e3, ?_⟩
      generalize (q_fault (V 1 1) (V 2)).2.1 = f at *
      generalize (q_fault (V 1 1) (V 2)).2.2.1 = d at *
      generalize (q_fault (V 1 1) (V 2)).2.2.2 = rf at *
      obtain ⟨⟨y1, y2, y3, y4⟩, y5, y6, ⟨y7, y8, y9⟩, ⟨y10, y11, y12⟩, y13, y14⟩ := hd2
      obtain ⟨⟨⟨a1, a2, a3, a4⟩, ⟨b1, b2, b3, b4, b5⟩, b6⟩, ⟨c1, c2⟩, ⟨d1, d2⟩, ⟨k1, k2⟩, k3, e⟩ := h
      have lo : ∀ c, c < 201 → V3 c = V1 c := fun c q => y14 c (by omega) (by omega) (by omega) (by omega) (by omega) (by omega) (by omega)
      have z0 := lo 0 (by decide)
      have z1 := lo 1 (by decide)
      have z2 := lo 2 (by decide)
      have z3 := lo 3 (by decide)
      have z4 := lo 4 (by decide)
      have z5 := lo 5 (by decide)
      have h1 : V1 1 = V 1 := x14 1 (by decide) (by decide) (by decide) (by decide) (Or.inl (by decide))
      have h2 : V1 2 = V 2 := x14 2 (by decide) (by decide) (by decide) (by decide) (Or.inl (by decide))
      have g2 : V3 202 = V1 202 := y14 202 (by decide) (by decide) (by decide) (by decide) (by decide) (by decide) (by decide)
      have zb : ∀ r, r < 11 → V3 (hB 0 + r) = V1 (hB 0 + r) := fun r hr => lo _ (by unfold hB; omega)
      have zb0 : V3 (hB 0) = V1 (hB 0) := zb 0 (by decide)
      refine ⟨⟨⟨by rw [y13 0 (by decide) (by decide) (by decide) (by decide) (by decide), hi 201 (by decide)]; exact a1, by rw [z0, y1, x1], by rw [y13 2 (by decide) (by decide) (by decide) (by decide) (by decide), hi 201 (by decide), z1, h1]; exact a3, by rw [y10, z0, x10]⟩, ⟨by rw [z0, x1]; exact x2, by rw [z1, h1]; exact b2, by rw [z0, x10]; decide, by rw [z0, x12]; exact b4, by rw [z0, x11]; decide⟩, b6⟩, ⟨by rw [g2, hi 202 (by decide), z2, h2]; exact c1, by rw [z2, h2]; exact c2⟩, ⟨fun i hi6 => ?_, fun i hi6 => ?_⟩, ⟨⟨fun k hk => ?_, ⟨?_, ?_, ?_⟩, fun a b ha hb => ?_⟩, fun a ha => ?_⟩, fun k hk => ?_, fun j hj => ?_⟩
      · rw [z3, z4, z5]
        by_cases g : i < f
        · obtain ⟨⟨u1, u2, u3⟩, u4, u5, u6⟩ := x5 i g
          obtain ⟨⟨v1, v2, v3⟩, v4, v5, v6⟩ := y5 i g
          exact ⟨v2.trans u2.symm, v4.trans u4.symm, v5.trans u5.symm⟩
        · obtain ⟨⟨u1, u2, u3⟩, u4, u5, u6⟩ := x6 i (by omega) hi6
          obtain ⟨⟨v1, v2, v3⟩, v4, v5, v6⟩ := y6 i (by omega) hi6
          rw [v4, v5, v6, u4, u5, u6, hi 203 (by decide), hi 204 (by decide), hi 205 (by decide)]
          exact d1 i hi6
      · rw [z3, z4, z5]
        by_cases g : i < f
        · obtain ⟨⟨u1, u2, u3⟩, u4, u5, u6⟩ := x5 i g
          have := x13 i g
          omega
        · obtain ⟨⟨u1, u2, u3⟩, u4, u5, u6⟩ := x6 i (by omega) hi6
          rw [u4, u5, u6]
          exact d2 i hi6
      · rw [Nat.zero_add, Nat.zero_add, Nat.zero_add, zb 1 (by decide), zb 2 (by decide), zb 3 (by decide)]
        by_cases g : k < f
        · obtain ⟨⟨u1, u2, u3⟩, u4, u5, u6⟩ := x5 k g
          obtain ⟨⟨v1, v2, v3⟩, v4, v5, v6⟩ := y5 k g
          exact ⟨v1.trans u1.symm, v3.trans u3.symm, v6.trans u6.symm⟩
        · obtain ⟨⟨u1, u2, u3⟩, u4, u5, u6⟩ := x6 k (by omega) hk
          obtain ⟨⟨v1, v2, v3⟩, v4, v5, v6⟩ := y6 k (by omega) hk
          exact ⟨v1.trans u1.symm, v2.trans u2.symm, v3.trans u3.symm⟩
      · rw [Nat.zero_add, zb0, y7, x7]
      · rw [Nat.zero_add, zb0, y3, x3]
      · rw [Nat.zero_add, zb0, y8, x8]
      · rw [Nat.zero_add, zb _ (by omega), y9 _ (by omega) (by omega), x9 _ _ (by omega) (by omega) hb]
      · rw [z0, x10] at ha; exact absurd ha (Nat.not_lt_zero a)
      · rw [z0, x11, Nat.zero_testBit]
        have e0 : V3 211 k = 0 := by
          rcases (show k = 0 ∨ k = 1 by omega) with g | g
          · rw [g]; exact y11
          · rw [g]; exact y12
        rw [e0]
        exact ⟨by decide, ⟨fun _ => by decide, fun _ => rfl⟩, fun q => absurd q (by decide)⟩
      · by_cases g0 : j = 0
        · subst g0
          refine ⟨fun i hi6 => ?_, ?_, ?_, ?_⟩
          · rw [zb 1 (by decide), zb 2 (by decide)]
            by_cases g : i < f
            · obtain ⟨⟨u1, u2, u3⟩, _⟩ := x5 i g
              have := x13 i g
              omega
            · obtain ⟨⟨u1, u2, u3⟩, _⟩ := x6 i (by omega) hi6
              omega
          · rw [zb0, x7]; decide
          · rw [zb0, x3]; exact x4
          · rw [zb0, x8]; exact Nat.zero_le _
        · exact R_bd_of (g_hq_of fun r hr => by rw [lo _ (by unfold hB; omega), x14 _ (by unfold hB; omega) (by unfold hB; omega) (by unfold hB; omega) (by unfold hB; omega) (Or.inr (by unfold hB; omega))]) (e j hj) (by omega)
end RED
