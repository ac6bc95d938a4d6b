/-! The two side by side: storm, undo, keep, again, the text, the dyke. -/
section REC
variable {t : Nat} {V V1 V2 V3 : g_V} {S : g_L}
theorem R_storm (h : R t V S) (ht : t < 800) (x : Int32) {r : Option Value} {V1 : g_V} {S1 : g_L} (hD : S1 = S ∧ ((¬ q_in x 21 ∧ g_no V (-2) r V1) ∨ (q_in x 21 ∧ ∃ V2, g_rem V V2 ∧ V1 = g_up (g_up (g_sk V2 (hB 0 + 1) (q_n x) (V 0 1)) (hB 0) 4 (V (hB 0) 4 ||| q_brk (V 0 1) (D_str V) (q_n x))) (hB 0) 6 (V (hB 0) 6 + 1) ∧ r = some (.int (nI (q_pick (V 0 1) (V 4) (q_wet (V 0 1) (V (hB 0) 5) (q_brk (V 0 1) (D_str V) (q_n x))))))))) : ∃ a9, r = some (.int a9) ∧ (M_OK V1) ∧ ∀ (r' : Option Value) (V3 : g_V) (S3 : g_L), (S3 = S1 ∧ ((¬ q_in x 21 ∧ g_no V1 (-2) r' V3) ∨ (q_in x 21 ∧ V3 = g_go (g_nt V1) 207 (q_n x) ∧ r' = some (.int (nI (q_pick (g_cv V1 0 1) (g_cv V1 4) (q_wet (g_cv V1 0 1) (g_cv V1 (hB 0) 5) (q_brk (g_cv V1 0 1) (D_str (g_cv V1)) (q_n x))))))))) → r' = some (.int a9) ∧ R (t + 1) V3 S3 := by
  obtain ⟨rfl, hq⟩ := hD
  have hpg := R_pg_0 h
  have hbd := h.2.2.2.2.2 0 (by decide)
  obtain ⟨hb1, hb4, hb5, hb6⟩ := hbd
  have hbd := h.2.2.2.2.2 0 (by decide)
  obtain ⟨w18, w19, w20⟩ := hpg.2.1
  have hn := h.1.2.1.1
  have ha := R_ag h
  have hc4 := h.1.1.2.1
  rcases hq with ⟨q, e1, e2⟩ | ⟨q, V2, hr, e2, e1⟩
  · rw [e2]
    refine ⟨_, e1, R_mok h (by omega), ?_⟩
    rintro r' V3 S3 ⟨rfl, hm⟩
    rcases hm with ⟨m, e3, e4⟩ | ⟨m, hm⟩
    · rw [e4]; exact ⟨e3, R_fr h g_fr_0 h.1.2.2 (by omega)⟩
    · exact absurd m q
  · have hz : hB 0 = 14 := rfl
    have o1 : ∀ c, (c < 14 ∨ 25 ≤ c) → V1 c = V2 c := fun c hc => by rw [e2, g_up_ne (by omega), g_up_ne (by omega), g_sk_N (by omega)]
    have hi : ∀ c, 201 ≤ c → V1 c = V c := fun c q => by rw [o1 c (Or.inr (by omega)), hr.hi (by omega)]
    have hM : M_OK V1 := M_OK_of (R_mok h (by omega)) (hi 201 (by decide)) (hi 203 (by decide)) (hi 204 (by decide)) (hi 205 (by decide)) (hi 207 (by decide))
    have hcv : g_cv V1 = g_cv V := g_cv_eq (by rw [hi 201 (by decide)]) (by rw [hi 201 (by decide)]) (by rw [hi 201 (by decide)]) (hi 202 (by decide)) (hi 203 (by decide)) (hi 204 (by decide)) (hi 205 (by decide)) (hi 207 (by decide))
    refine ⟨_, e1, hM, ?_⟩
    rintro r' V3 S3 ⟨rfl, hm⟩
    rcases hm with ⟨m, _⟩ | ⟨m, e4, e3⟩
    · exact absurd q m
    · have w4 : g_nt V1 201 4 = V 0 1 := by rw [g_nt_k (by decide), hi 201 (by decide), hc4]
      have w7 : g_nt V1 207 = V 207 := by rw [g_nt_c (by decide) (by decide), hi 207 (by decide)]
      have ws : M_str (g_nt V1) 207 = M_str V 207 := M_str_eq (by rw [g_nt_c (by decide) (by decide), hi 203 (by decide)]) (by rw [g_nt_c (by decide) (by decide), hi 205 (by decide)]) w7
      have wb : q_brk (V 0 1) (M_str V 207) (q_n x) = q_brk (V 0 1) (D_str V) (q_n x) := by
        have := A_brk ha (q_n x)
        rw [← this, ha.1.2.1]; rfl
      have h3 : ∀ c, c ≠ 207 → V3 c = g_nt V1 c := fun c hc => by rw [e4]; unfold g_go; rw [g_up_ne hc, g_up_ne hc, g_gs_N hc]
      have F18 : V3 207 18 = V 207 18 ||| q_brk (V 0 1) (D_str V) (q_n x) := by
        rw [e4]; unfold g_go; rw [g_upK (by decide), g_upS, w7, w4, ws, wb]
      have F20 : V3 207 20 = V 207 20 + 1 := by
        rw [e4]; unfold g_go; rw [g_upS, w7]
      have F : ∀ k, k ≠ 18 → k ≠ 20 → V3 207 k = if k < V 0 1 then q_bh (M_str V 207 k) (V 207 k) (q_n x) else V 207 k := fun k k1 k2 => by
        rw [e4]; unfold g_go; rw [g_upK k2, g_upK k1]; unfold g_gs; rw [g_rowS, ws, w7, w4]
      have L : ∀ r, r < 11 → V3 (hB 0 + r) = V1 (hB 0 + r) := fun r hr11 => by
        rw [h3 _ (by omega), g_nt_c (by omega) (by omega)]
      have C : ∀ r, 1 < r → r < 11 → V3 (hB 0 + r) = V (hB 0 + r) := fun r r1 r2 => by
        rw [L r r2, e2, g_up_ne (by omega), g_up_ne (by omega), g_sk_N (by omega), hr.lo (by omega) (by omega)]
      have z1 : V2 (hB 0 + 1) = V (hB 0 + 1) := hr.lo (by omega) (by omega)
      have C1 : ∀ k, V3 (hB 0 + 1) k = if k < V 0 1 then q_bh (D_str V k) (V (hB 0 + 1) k) (q_n x) else V (hB 0 + 1) k := fun k => by
        rw [L 1 (by decide), e2, g_up_ne (by omega), g_up_ne (by omega)]; unfold g_sk; rw [g_rowS, z1, hr.lo (c := 5) (by decide) (by decide), hr.lo (c := 3) (by decide) (by decide)]; rfl
      have L0 : V3 (hB 0) = V1 (hB 0) := L 0 (by decide)
      have z0 : V2 (hB 0) = V (hB 0) := hr.lo (by omega) (by omega)
      have C4 : V3 (hB 0) 4 = V (hB 0) 4 ||| q_brk (V 0 1) (D_str V) (q_n x) := by rw [L0, e2, g_upK (by decide), g_upS]
      have C6 : V3 (hB 0) 6 = V (hB 0) 6 + 1 := by rw [L0, e2, g_upS]
      have C5 : V3 (hB 0) 5 = V (hB 0) 5 := by rw [L0, e2, g_upK (by decide), g_upK (by decide), g_sk_N (by omega), z0]
      have hbr : q_brk (V 0 1) (D_str V) (q_n x) < 64 := q_brk_lt (m := 6) hn
      refine ⟨?_, R_act h hr o1 h3 ⟨fun k hk => ?_, ⟨?_, ?_, ?_⟩, fun a b ha6 hb6 => ?_⟩ ⟨fun i hi6 => ?_, ?_, ?_, ?_⟩⟩
      · rw [e3, hcv, A_brk ha, A_wt ha, A_pick ha]
      · obtain ⟨u1, u2, u3⟩ := hpg.1 k hk
        have us : M_str V 207 k = D_str V k := A_str ha k hk
        rw [Nat.zero_add, Nat.zero_add, Nat.zero_add, F k (by omega) (by omega), F (6 + k) (by omega) (by omega), F (12 + k) (by omega) (by omega), C1, C 2 (by decide) (by decide), C 3 (by decide) (by decide), us, u1, if_neg (show ¬ 6 + k < V 0 1 by omega), if_neg (show ¬ 12 + k < V 0 1 by omega)]
        exact ⟨rfl, u2, u3⟩
      · rw [Nat.zero_add, F18, C4, w18]
      · rw [Nat.zero_add, F 19 (by decide) (by decide), C5, if_neg (show ¬ 19 < V 0 1 by omega)]; exact w19
      · rw [Nat.zero_add, F20, C6, w20]
      · rw [Nat.zero_add, F _ (by omega) (by omega), C (5 + a) (by omega) (by omega), if_neg (show ¬ 21 + 6 * a + b < V 0 1 by omega)]
        exact hpg.2.2 a b ha6 hb6
      · have u := hb1 i hi6
        rw [C1, C 2 (by decide) (by decide)]
        refine ⟨?_, by omega⟩
        by_cases g : i < V 0 1
        · rw [if_pos g]; exact Nat.le_trans q_bh_le u.1
        · rw [if_neg g]; exact u.1
      · rw [C4]; exact Nat.or_lt_two_pow (n := 6) hb4 hbr
      · rw [C5]; exact hb5
      · rw [C6]; omega
theorem R_take {j c o m : Nat} (h : R t V S) (hlo : ∀ c, c ≠ 0 → c < 14 → V3 c = V c) (hhi : ∀ c, 25 ≤ c → c ≠ 201 → c ≠ 207 → V3 c = V c) (h0 : ∀ k, k ≠ 8 → V3 0 k = V 0 k) (h8 : V3 0 8 = m) (h1 : ∀ k, k ≠ 14 → V3 201 k = V 201 k) (h14 : V3 201 14 = m) (hm : m ≤ V 0 8) (hq : g_hq V3 0 V j) (hj : j < 17) (hp : R_pg V j c o) (h7 : ∀ k, k < 57 → V3 207 k = V c (o + k)) : R (t + 1) V3 S := by
  obtain ⟨⟨⟨a1, a2, a3, a4⟩, ⟨b1, b2, b3, b4, b5⟩, b6⟩, ⟨c1, c2⟩, ⟨d1, d2⟩, ⟨k1, k2⟩, k3, e⟩ := h
  have hqo : ∀ i, 1 ≤ i → i < 17 → g_hq V3 i V i := fun i q1 q2 => g_hq_of fun r hr => hhi _ (by unfold hB; omega) (by unfold hB; omega) (by unfold hB; omega)
  have w1 := h0 1 (by decide)
  have w7 := h0 7 (by decide)
  have w10 := h0 10 (by decide)
  have l1 := hlo 1 (by decide) (by decide)
  have l2 := hlo 2 (by decide) (by decide)
  have l3 := hlo 3 (by decide) (by decide)
  have l4 := hlo 4 (by decide) (by decide)
  have l5 := hlo 5 (by decide) (by decide)
  have g2 := hhi 202 (by decide) (by decide) (by decide)
  have g3 := hhi 203 (by decide) (by decide) (by decide)
  have g4 := hhi 204 (by decide) (by decide) (by decide)
  have g5 := hhi 205 (by decide) (by decide) (by decide)
  have g9 := hhi 209 (by decide) (by decide) (by decide)
  have g10 := hhi 210 (by decide) (by decide) (by decide)
  have g11 := hhi 211 (by decide) (by decide) (by decide)
  refine ⟨⟨⟨by rw [h1 0 (by decide)]; exact a1, by rw [h1 4 (by decide), w1]; exact a2, by rw [h1 2 (by decide), l1]; exact a3, by rw [h14, h8]⟩, ⟨by rw [w1]; exact b1, by rw [l1]; exact b2, by omega, by rw [w7]; exact b4, by rw [w10]; exact b5⟩, b6⟩, ⟨by rw [g2, l2]; exact c1, by rw [l2]; exact c2⟩, ⟨by rw [g3, g4, g5, l3, l4, l5]; exact d1, by unfold g_K; rw [l3, l4, l5]; exact d2⟩, ⟨R_pg_of hq (fun k hk => by rw [Nat.zero_add]; exact h7 k hk) hp, fun a ha => ?_⟩, fun k hk => ?_, fun i hi => ?_⟩
  · rw [w7]
    have hmd := Nat.mod_lt (V 0 7 + a) (show 0 < 14 by decide)
    exact R_pg_of (hqo _ (by omega) (by omega)) (fun k _ => by rw [g9]) (k2 a (by omega))
  · obtain ⟨q1, q2, q3⟩ := k3 k hk
    rw [w10, g11]
    exact ⟨q1, q2, fun q => R_pg_of (hqo (15 + k) (by omega) (by omega)) (fun i _ => by rw [g10]) (q3 q)⟩
  · by_cases e0 : i = 0
    · subst e0; exact R_bd_of hq (e j hj) (by omega)
    · exact R_bd_of (hqo i (by omega) hi) (e i hi) (by omega)
theorem R_undo (h : R t V S) (ht : t < 800)  {r : Option Value} {V1 : g_V} {S1 : g_L} (hD : S1 = S ∧ ((V 0 8 = 0 ∧ g_no V (-3) r V1) ∨ (1 ≤ V 0 8 ∧ r = some (.int (nI (V 0 8 - 1))) ∧ V1 0 8 = V 0 8 - 1 ∧ (∀ k, k ≠ 8 → V1 0 k = V 0 k) ∧ g_hq V1 0 V (1 + (V 0 7 + (V 0 8 - 1)) % 14) ∧ ∀ c, c ≠ 0 → (c < hB 0 ∨ hB 0 + 11 ≤ c) → V1 c = V c))) : ∃ a9, r = some (.int a9) ∧ (M_OK V1) ∧ ∀ (r' : Option Value) (V3 : g_V) (S3 : g_L), (S3 = S1 ∧ ((V1 201 14 = 0 ∧ g_no V1 (-3) r' V3) ∨ (1 ≤ V1 201 14 ∧ r' = some (.int (nI (V1 201 14 - 1))) ∧ V3 = g_tk (g_up V1 201 14 (V1 201 14 - 1)) 209 (57 * (V1 201 14 - 1))))) → r' = some (.int a9) ∧ R (t + 1) V3 S3 := by
  obtain ⟨rfl, hq⟩ := hD
  have h14 := h.1.1.2.2.2
  rcases hq with ⟨q, e1, e2⟩ | ⟨q, e1, d8, d0, dq, df⟩
  · rw [e2]
    refine ⟨_, e1, R_mok h (by omega), ?_⟩
    rintro r' V3 S3 ⟨rfl, hm⟩
    rcases hm with ⟨m, e3, e4⟩ | ⟨m, hm⟩
    · rw [e4]; exact ⟨e3, R_fr h g_fr_0 h.1.2.2 (by omega)⟩
    · omega
  · have hz : hB 0 = 14 := rfl
    have hi : ∀ c, 25 ≤ c → V1 c = V c := fun c q => df c (by omega) (Or.inr (by omega))
    have hM : M_OK V1 := M_OK_of (R_mok h (by omega)) (hi 201 (by decide)) (hi 203 (by decide)) (hi 204 (by decide)) (hi 205 (by decide)) (hi 207 (by decide))
    refine ⟨_, e1, hM, ?_⟩
    rintro r' V3 S3 ⟨rfl, hm⟩
    have e14 : V1 201 14 = V 0 8 := by rw [hi 201 (by decide), h14]
    rw [e14] at hm
    rcases hm with ⟨m, _⟩ | ⟨m, e3, e4⟩
    · omega
    · have hmd := Nat.mod_lt (V 0 7 + (V 0 8 - 1)) (show 0 < 14 by decide)
      have hl : ∀ c, c ≠ 201 → c ≠ 207 → V3 c = V1 c := fun c c1 c7 => by rw [e4]; unfold g_tk; rw [g_pra_N c7, g_up_ne c1]
      have v201 : V3 201 = g_up V1 201 14 (V 0 8 - 1) 201 := by rw [e4]; unfold g_tk; rw [g_pra_N (by decide)]
      refine ⟨e3, R_take (m := V 0 8 - 1) (j := 1 + (V 0 7 + (V 0 8 - 1)) % 14) (c := 209) (o := 57 * (V 0 8 - 1)) h (fun c c0 c14 => ?_) (fun c c25 c1 c7 => ?_) (fun k hk => ?_) ?_ (fun k hk => ?_) ?_ (by omega) ?_ (by omega) (h.2.2.2.1.2 _ (by omega)) (fun k hk => ?_)⟩
      · rw [hl c (by omega) (by omega)]; exact df c c0 (Or.inl (by omega))
      · rw [hl c c1 c7]; exact hi c c25
      · rw [hl 0 (by decide) (by decide)]; exact d0 k hk
      · rw [hl 0 (by decide) (by decide)]; exact d8
      · rw [v201, g_upK hk, hi 201 (by decide)]
      · rw [v201, g_upS]
      · exact g_hq_tr (g_hq_of fun r hr => hl _ (by omega) (by omega)) dq
      · rw [e4]
        unfold g_tk
        rw [g_pra_S0 (f := fun k => g_up V1 201 14 (V 0 8 - 1) 209 (57 * (V 0 8 - 1) + k)) hk]
        show g_up V1 201 14 (V 0 8 - 1) 209 _ = _
        rw [g_up_ne (by decide), hi 209 (by decide)]
theorem R_again (h : R t V S) (ht : t < 800) (x : Int32) {r : Option Value} {V1 : g_V} {S1 : g_L} (hD : S1 = S ∧ ((¬ q_in x 2 ∧ g_no V (-1) r V1) ∨ (q_in x 2 ∧ ¬ (V 0 10).testBit (q_n x) = true ∧ g_no V (-3) r V1) ∨ (q_in x 2 ∧ (V 0 10).testBit (q_n x) = true ∧ r = some (.int (nI (V (hB (15 + q_n x)) 6))) ∧ V1 0 8 = 0 ∧ (∀ k, k ≠ 8 → V1 0 k = V 0 k) ∧ g_hq V1 0 V (15 + q_n x) ∧ ∀ c, c ≠ 0 → (c < hB 0 ∨ hB 0 + 11 ≤ c) → V1 c = V c))) : ∃ a9, r = some (.int a9) ∧ (M_OK V1 ∧ ∀ k, k < 2 → V1 211 k ≤ 1) ∧ ∀ (r' : Option Value) (V3 : g_V) (S3 : g_L), (S3 = S1 ∧ ((¬ q_in x 2 ∧ g_no V1 (-1) r' V3) ∨ (q_in x 2 ∧ V1 211 (q_n x) = 0 ∧ g_no V1 (-3) r' V3) ∨ (q_in x 2 ∧ ¬ V1 211 (q_n x) = 0 ∧ r' = some (.int (nI (V1 210 (57 * q_n x + 20)))) ∧ V3 = g_up (g_tk V1 210 (57 * q_n x)) 201 14 0))) → r' = some (.int a9) ∧ R (t + 1) V3 S3 := by
  obtain ⟨rfl, hq⟩ := hD
  have h14 := h.1.1.2.2.2
  have hk3 := h.2.2.2.2.1
  have hk2 : ∀ k, k < 2 → V 211 k ≤ 1 := fun k hk => (hk3 k hk).1
  rcases hq with ⟨q, e1, e2⟩ | ⟨q, q2, e1, e2⟩ | ⟨q, q2, e1, d8, d0, dq, df⟩
  · rw [e2]
    refine ⟨_, e1, ⟨R_mok h (by omega), hk2⟩, ?_⟩
    rintro r' V3 S3 ⟨rfl, hm⟩
    rcases hm with ⟨m, e3, e4⟩ | ⟨m, _⟩ | ⟨m, _⟩
    · rw [e4]; exact ⟨e3, R_fr h g_fr_0 h.1.2.2 (by omega)⟩
    · exact absurd m q
    · exact absurd m q
  · have hx := q_n_lt q
    rw [e2]
    refine ⟨_, e1, ⟨R_mok h (by omega), hk2⟩, ?_⟩
    rintro r' V3 S3 ⟨rfl, hm⟩
    rcases hm with ⟨m, _⟩ | ⟨m, m2, e3, e4⟩ | ⟨m, m2, _⟩
    · exact absurd q m
    · rw [e4]; exact ⟨e3, R_fr h g_fr_0 h.1.2.2 (by omega)⟩
    · exact absurd ((hk3 _ hx).2.1.mpr q2) m2
  · have hx := q_n_lt q
    have hz : hB 0 = 14 := rfl
    have hi : ∀ c, 25 ≤ c → V1 c = V c := fun c q => df c (by omega) (Or.inr (by omega))
    have hM : M_OK V1 := M_OK_of (R_mok h (by omega)) (hi 201 (by decide)) (hi 203 (by decide)) (hi 204 (by decide)) (hi 205 (by decide)) (hi 207 (by decide))
    have hpk := (hk3 _ hx).2.2 q2
    refine ⟨_, e1, ⟨hM, by rw [hi 211 (by decide)]; exact hk2⟩, ?_⟩
    rintro r' V3 S3 ⟨rfl, hm⟩
    rw [hi 211 (by decide)] at hm
    rcases hm with ⟨m, _⟩ | ⟨m, m2, _⟩ | ⟨m, m2, e3, e4⟩
    · exact absurd q m
    · exact absurd q2 ((hk3 _ hx).2.1.mp m2)
    · have hl : ∀ c, c ≠ 201 → c ≠ 207 → V3 c = V1 c := fun c c1 c7 => by rw [e4]; unfold g_tk; rw [g_up_ne c1, g_pra_N c7]
      have v201 : V3 201 = g_up V1 201 14 0 201 := by
        rw [e4]; unfold g_tk
        funext k
        by_cases g : k = 14
        · subst g; rw [g_upS, g_upS]
        · rw [g_upK g, g_upK g, g_pra_N (by decide)]
      refine ⟨?_, R_take (m := 0) (j := 15 + q_n x) (c := 210) (o := 57 * q_n x) h (fun c c0 c14 => ?_) (fun c c25 c1 c7 => ?_) (fun k hk => ?_) ?_ (fun k hk => ?_) ?_ (by omega) ?_ (by omega) hpk (fun k hk => ?_)⟩
      · rw [e3, hi 210 (by decide), hpk.2.1.2.2]
      · rw [hl c (by omega) (by omega)]; exact df c c0 (Or.inl (by omega))
      · rw [hl c c1 c7]; exact hi c c25
      · rw [hl 0 (by decide) (by decide)]; exact d0 k hk
      · rw [hl 0 (by decide) (by decide)]; exact d8
      · rw [v201, g_upK hk, hi 201 (by decide)]
      · rw [v201, g_upS]
      · exact g_hq_tr (g_hq_of fun r hr => hl _ (by omega) (by omega)) dq
      · rw [e4]
        unfold g_tk
        rw [g_upN (by decide), g_pra_S0 (f := fun k => V1 210 (57 * q_n x + k)) hk]
        show V1 210 _ = _
        rw [hi 210 (by decide)]
theorem R_keep (h : R t V S) (ht : t < 800) (x : Int32) {r : Option Value} {V1 : g_V} {S1 : g_L} (hD : S1 = S ∧ ((¬ q_in x 2 ∧ g_no V (-1) r V1) ∨ (q_in x 2 ∧ r = some (.int (nI (V (hB 0) 6))) ∧ V1 0 10 = V 0 10 ||| 1 <<< q_n x ∧ (∀ k, k ≠ 10 → V1 0 k = V 0 k) ∧ g_hq V1 (15 + q_n x) V 0 ∧ ∀ c, c ≠ 0 → (c < hB (15 + q_n x) ∨ hB (15 + q_n x) + 11 ≤ c) → V1 c = V c))) : ∃ a9, r = some (.int a9) ∧ (M_OK V1) ∧ ∀ (r' : Option Value) (V3 : g_V) (S3 : g_L), (S3 = S1 ∧ ((¬ q_in x 2 ∧ g_no V1 (-1) r' V3) ∨ (q_in x 2 ∧ r' = some (.int (nI (V1 207 20))) ∧ V3 = g_pra (g_up V1 211 (q_n x) 1) 210 (V1 207) (57 * q_n x) 57))) → r' = some (.int a9) ∧ R (t + 1) V3 S3 := by
  obtain ⟨rfl, hq⟩ := hD
  have hpg := R_pg_0 h
  rcases hq with ⟨q, e1, e2⟩ | ⟨q, e1, d10, d0, dq, df⟩
  · rw [e2]
    refine ⟨_, e1, R_mok h (by omega), ?_⟩
    rintro r' V3 S3 ⟨rfl, hm⟩
    rcases hm with ⟨m, e3, e4⟩ | ⟨m, _⟩
    · rw [e4]; exact ⟨e3, R_fr h g_fr_0 h.1.2.2 (by omega)⟩
    · exact absurd m q
  · have hx := q_n_lt q
    have hi : ∀ c, 201 ≤ c → V1 c = V c := fun c q => df c (by omega) (Or.inr (by unfold hB; omega))
    have hM : M_OK V1 := M_OK_of (R_mok h (by omega)) (hi 201 (by decide)) (hi 203 (by decide)) (hi 204 (by decide)) (hi 205 (by decide)) (hi 207 (by decide))
    refine ⟨_, e1, hM, ?_⟩
    rintro r' V3 S3 ⟨rfl, hm⟩
    rcases hm with ⟨m, _⟩ | ⟨m, e3, e4⟩
    · exact absurd q m
    · have hl : ∀ c, c ≠ 210 → c ≠ 211 → V3 c = V1 c := fun c c1 c7 => by rw [e4, g_pra_N c1, g_up_ne c7]
      have v210 : ∀ i k, i < 2 → k < 57 → V3 210 (57 * i + k) = if i = q_n x then V 207 k else V 210 (57 * i + k) := fun i k hi2 hk => by
        rw [e4]
        by_cases g : i = q_n x
        · rw [if_pos g, g, g_pra_S (f := V1 207) hk, hi 207 (by decide)]
        · rw [if_neg g, g_pra_T (by omega), g_up_ne (by decide), hi 210 (by decide)]
      have v211 : ∀ i, V3 211 i = if i = q_n x then 1 else V 211 i := fun i => by
        rw [e4, g_pra_N (by decide)]
        by_cases g : i = q_n x
        · rw [if_pos g, g, g_upS]
        · rw [if_neg g, g_upK g, hi 211 (by decide)]
      obtain ⟨⟨⟨a1, a2, a3, a4⟩, ⟨b1, b2, b3, b4, b5⟩, b6⟩, ⟨c1, c2⟩, ⟨d1, d2⟩, ⟨k1, k2⟩, k3, e⟩ := h
      have hi3 : ∀ c, 201 ≤ c → c ≠ 210 → c ≠ 211 → V3 c = V c := fun c q1 q2 q3 => by rw [hl c q2 q3, hi c q1]
      have lo : ∀ c, c ≠ 0 → c < 14 → V3 c = V c := fun c q1 q2 => by rw [hl c (by omega) (by omega), df c q1 (Or.inl (by unfold hB; omega))]
      have z0 : V3 0 = V1 0 := hl 0 (by decide) (by decide)
      have hq3 : ∀ j, j < 17 → g_hq V3 j V1 j := fun j hj => g_hq_of fun r hr => hl _ (by unfold hB; omega) (by unfold hB; omega)
      have hqo : ∀ j, j < 17 → j ≠ 15 + q_n x → g_hq V3 j V j := fun j hj hne => g_hq_tr (hq3 j hj) (g_hq_of fun r hr => df _ (by unfold hB; omega) (by unfold hB; omega))
      have hqn : g_hq V3 (15 + q_n x) V 0 := g_hq_tr (hq3 _ (by omega)) dq
      have w1 : V3 0 1 = V 0 1 := by rw [z0]; exact d0 1 (by decide)
      have w7 : V3 0 7 = V 0 7 := by rw [z0]; exact d0 7 (by decide)
      have w8 : V3 0 8 = V 0 8 := by rw [z0]; exact d0 8 (by decide)
      have w10 : V3 0 10 = V 0 10 ||| 1 <<< q_n x := by rw [z0]; exact d10
      have g1 := hi3 201 (by decide) (by decide) (by decide)
      have l1 := lo 1 (by decide) (by decide)
      have l2 := lo 2 (by decide) (by decide)
      have l3 := lo 3 (by decide) (by decide)
      have l4 := lo 4 (by decide) (by decide)
      have l5 := lo 5 (by decide) (by decide)
      have g2 := hi3 202 (by decide) (by decide) (by decide)
      have g3 := hi3 203 (by decide) (by decide) (by decide)
      have g4 := hi3 204 (by decide) (by decide) (by decide)
      have g5 := hi3 205 (by decide) (by decide) (by decide)
      have g7 := hi3 207 (by decide) (by decide) (by decide)
      have g9 := hi3 209 (by decide) (by decide) (by decide)
      refine ⟨?_, ⟨⟨by rw [g1]; exact a1, by rw [g1, w1]; exact a2, by rw [g1, l1]; exact a3, by rw [g1, w8]; exact a4⟩, ⟨by rw [w1]; exact b1, by rw [l1]; exact b2, by rw [w8]; exact b3, by rw [w7]; exact b4, ?_⟩, b6⟩, ⟨by rw [g2, l2]; exact c1, by rw [l2]; exact c2⟩, ⟨by rw [g3, g4, g5, l3, l4, l5]; exact d1, by unfold g_K; rw [l3, l4, l5]; exact d2⟩, ⟨R_pg_of (hqo 0 (by decide) (by omega)) (fun k _ => by rw [g7]) k1, fun a ha => ?_⟩, fun k hk => ?_, fun i hi' => ?_⟩
      · rw [e3, hi 207 (by decide), hpg.2.1.2.2]
      · rw [w10]; exact Nat.or_lt_two_pow (n := 2) b5 (q_bit_lt hx)
      · rw [w8] at ha
        rw [w7]
        have hmd := Nat.mod_lt (V 0 7 + a) (show 0 < 14 by decide)
        exact R_pg_of (hqo _ (by omega) (by omega)) (fun k _ => by rw [g9]) (k2 a ha)
      · obtain ⟨q1, q2, q3⟩ := k3 k hk
        rw [v211, w10, Nat.testBit_or]
        by_cases g : k = q_n x
        · rw [if_pos g]
          have hbt : (1 <<< q_n x).testBit k = true := q_bit_tb.mpr g.symm
          rw [hbt, Bool.or_true]
          refine ⟨Nat.le_refl 1, ⟨fun q => absurd q (by decide), fun q => absurd rfl q⟩, fun _ => ?_⟩
          rw [g]
          exact R_pg_of hqn (fun i hi57 => by rw [v210 _ _ hx hi57, if_pos rfl, Nat.zero_add]) k1
        · rw [if_neg g]
          have hbt : (1 <<< q_n x).testBit k = false := by
            rw [← Bool.not_eq_true]; exact fun q => g (q_bit_tb.mp q).symm
          rw [hbt, Bool.or_false]
          exact ⟨q1, q2, fun q => R_pg_of (hqo (15 + k) (by omega) (by omega)) (fun i hi57 => by rw [v210 _ _ hk hi57, if_neg g]) (q3 q)⟩
      · by_cases g : i = 15 + q_n x
        · rw [g]; exact R_bd_of hqn (e 0 (by decide)) (by omega)
        · exact R_bd_of (hqo i hi' g) (e i hi') (by omega)
end REC
