/-! The two side by side: carry, lend, stick, pull, dam. -/
section REB
variable {t : Nat} {V : g_V} {S : g_L}
theorem R_carry (h : R t V S) (ht : t < 800) (x y : Int32) {r : Option Value} {V1 : g_V} {S1 : g_L} (hD : S1 = S ∧ ((¬ (q_in x (V 0 1) ∧ q_in y (V 0 1)) ∧ g_no V (-1) r V1) ∨ (q_in x (V 0 1) ∧ q_in y (V 0 1)) ∧ ((V (hB 0 + 2) (q_n x) < 1 ∧ g_no V (-3) r V1) ∨ (1 ≤ V (hB 0 + 2) (q_n x) ∧ 15 ≤ V (hB 0 + 1) (q_n y) ∧ g_no V (-4) r V1) ∨ (1 ≤ V (hB 0 + 2) (q_n x) ∧ V (hB 0 + 1) (q_n y) < 15 ∧ ∃ V2, g_rem V V2 ∧ V1 = g_up (g_up V2 (hB 0 + 2) (q_n x) (V (hB 0 + 2) (q_n x) - 1)) (hB 0 + 1) (q_n y) (V (hB 0 + 1) (q_n y) + 1) ∧ r = some (.int (nI (V (hB 0 + 1) (q_n y) + 1))))))) : ∃ a9, r = some (.int a9) ∧ (M_OK V1) ∧ ∀ (r' : Option Value) (V3 : g_V) (S3 : g_L), (S3 = S1 ∧ ((¬ (q_in x (V1 201 4) ∧ q_in y (V1 201 4)) ∧ g_no V1 (-1) r' V3) ∨ (q_in x (V1 201 4) ∧ q_in y (V1 201 4)) ∧ ((V1 207 (6 + q_n x) < 1 ∧ g_no V1 (-3) r' V3) ∨ (1 ≤ V1 207 (6 + q_n x) ∧ 15 ≤ V1 207 (q_n y) ∧ g_no V1 (-4) r' V3) ∨ (1 ≤ V1 207 (6 + q_n x) ∧ V1 207 (q_n y) < 15 ∧ V3 = g_up (g_up (g_nt V1) 207 (6 + q_n x) (V1 207 (6 + q_n x) - 1)) 207 (q_n y) (V1 207 (q_n y) + 1) ∧ r' = some (.int (nI (V1 207 (q_n y) + 1))))))) → r' = some (.int a9) ∧ R (t + 1) V3 S3 := by
  obtain ⟨rfl, hq⟩ := hD
  have hpg := R_pg_0 h
  have hbd := h.2.2.2.2.2 0 (by decide)
  obtain ⟨hb1, hb4, hb5, hb6⟩ := hbd
  have hbd := h.2.2.2.2.2 0 (by decide)
  obtain ⟨w18, w19, w20⟩ := hpg.2.1
  have hn := h.1.2.1.1
  rcases hq with ⟨q, e1, e2⟩ | ⟨q, hq⟩
  · rw [e2]
    refine ⟨_, e1, R_mok h (by omega), ?_⟩
    rintro r' V3 S3 ⟨rfl, hm⟩
    rw [h.1.1.2.1] at hm
    rcases hm with ⟨m, e3, e4⟩ | ⟨m, hm⟩
    · rw [e4]; exact ⟨e3, R_fr h g_fr_0 h.1.2.2 (by omega)⟩
    · exact absurd m q
  · have hx := q_n_lt q.1
    have hy := q_n_lt q.2
    obtain ⟨p1, p2, p3⟩ := hpg.1 (q_n x) (by omega)
    obtain ⟨s1, s2, s3⟩ := hpg.1 (q_n y) (by omega)
    have hbx := hb1 (q_n x) (by omega)
    have hby := hb1 (q_n y) (by omega)
    rcases hq with ⟨c, e1, e2⟩ | ⟨c, c2, e1, e2⟩ | ⟨c, c2, V2, hr, e2, e1⟩
    · rw [e2]
      refine ⟨_, e1, R_mok h (by omega), ?_⟩
      rintro r' V3 S3 ⟨rfl, hm⟩
      rw [h.1.1.2.1, p2, s1] at hm
      rcases hm with ⟨m, _⟩ | ⟨m, ⟨m2, e3, e4⟩ | ⟨m2, m3, e3, e4⟩ | ⟨m2, m3, e4, e3⟩⟩
      · exact absurd q m
      · rw [e4]; exact ⟨e3, R_fr h g_fr_0 h.1.2.2 (by omega)⟩
      · exfalso; first | omega | contradiction | exact absurd c m2 | exact absurd m2 c
      · exfalso; first | omega | contradiction | exact absurd c m2 | exact absurd m2 c
    · rw [e2]
      refine ⟨_, e1, R_mok h (by omega), ?_⟩
      rintro r' V3 S3 ⟨rfl, hm⟩
      rw [h.1.1.2.1, p2, s1] at hm
      rcases hm with ⟨m, _⟩ | ⟨m, ⟨m2, e3, e4⟩ | ⟨m2, m3, e3, e4⟩ | ⟨m2, m3, e4, e3⟩⟩
      · exact absurd q m
      · exfalso; first | omega | contradiction | exact absurd c m2 | exact absurd m2 c
      · rw [e4]; exact ⟨e3, R_fr h g_fr_0 h.1.2.2 (by omega)⟩
      · exfalso; first | omega | contradiction | exact absurd c m2 | exact absurd m2 c
    · have hz : hB 0 = 14 := rfl
      have o1 : ∀ c, (c < 14 ∨ 25 ≤ c) → V1 c = V2 c := fun c hc => by rw [e2, g_up_ne (by omega), g_up_ne (by omega)]
      have hi : ∀ c, 201 ≤ c → V1 c = V c := fun c q => by rw [o1 c (Or.inr (by omega)), hr.hi (by omega)]
      have hM : M_OK V1 := M_OK_of (R_mok h (by omega)) (hi 201 (by decide)) (hi 203 (by decide)) (hi 204 (by decide)) (hi 205 (by decide)) (hi 207 (by decide))
      have G : ∀ c k, V1 c k = if c = hB 0 + 1 ∧ k = q_n y then V (hB 0 + 1) (q_n y) + 1 else if c = hB 0 + 2 ∧ k = q_n x then V (hB 0 + 2) (q_n x) - 1 else V2 c k := fun c k => by rw [e2]; rfl
      refine ⟨_, e1, hM, ?_⟩
      rintro r' V3 S3 ⟨rfl, hm⟩
      rw [hi 201 (by decide), h.1.1.2.1, hi 207 (by decide), p2, s1] at hm
      rcases hm with ⟨m, _⟩ | ⟨m, ⟨m2, e3, e4⟩ | ⟨m2, m3, e3, e4⟩ | ⟨m2, m3, e4, e3⟩⟩
      · exact absurd q m
      · exfalso; first | omega | contradiction | exact absurd c m2 | exact absurd m2 c
      · exfalso; first | omega | contradiction | exact absurd c m2 | exact absurd m2 c
      · have h3 : ∀ c, c ≠ 207 → V3 c = g_nt V1 c := fun c hc => by rw [e4, g_up_ne hc, g_up_ne hc]
        have F : ∀ k, V3 207 k = if (207 : Nat) = 207 ∧ k = q_n y then V (hB 0 + 1) (q_n y) + 1 else if (207 : Nat) = 207 ∧ k = 6 + q_n x then V (hB 0 + 2) (q_n x) - 1 else V 207 k := fun k => by
          rw [e4]
          show (if (207 : Nat) = 207 ∧ k = q_n y then V (hB 0 + 1) (q_n y) + 1 else if (207 : Nat) = 207 ∧ k = 6 + q_n x then V (hB 0 + 2) (q_n x) - 1 else g_nt V1 207 k) = _
          rw [g_nt_c (by decide) (by decide), hi 207 (by decide)]
        have K : ∀ r k, r < 11 → V3 (hB 0 + r) k = if hB 0 + r = hB 0 + 1 ∧ k = q_n y then V (hB 0 + 1) (q_n y) + 1 else if hB 0 + r = hB 0 + 2 ∧ k = q_n x then V (hB 0 + 2) (q_n x) - 1 else V (hB 0 + r) k := fun r k hr11 => by
          rw [h3 _ (by omega), g_nt_c (by omega) (by omega), G, hr.lo (by omega) (by omega)]
        have K0 : ∀ k, V3 (hB 0) k = if hB 0 = hB 0 + 1 ∧ k = q_n y then V (hB 0 + 1) (q_n y) + 1 else if hB 0 = hB 0 + 2 ∧ k = q_n x then V (hB 0 + 2) (q_n x) - 1 else V (hB 0) k := fun k => K 0 k (by decide)
        refine ⟨e3, R_act h hr o1 h3 ⟨fun k hk => ?_, ⟨?_, ?_, ?_⟩, fun a b ha6 hb6 => ?_⟩ ⟨fun i hi6 => ?_, ?_, ?_, ?_⟩⟩
        · obtain ⟨u1, u2, u3⟩ := hpg.1 k hk
          rw [F, F, F, K 1 k (by decide), K 2 k (by decide), K 3 k (by decide), Nat.zero_add, Nat.zero_add, Nat.zero_add]
          refine ⟨?_, ?_, ?_⟩ <;> (repeat' split) <;> omega
        · rw [F, K0, Nat.zero_add]
          (repeat' split) <;> omega
        · rw [F, K0, Nat.zero_add]
          (repeat' split) <;> omega
        · rw [F, K0, Nat.zero_add]
          (repeat' split) <;> omega
        · have u := hpg.2.2 a b ha6 hb6
          rw [F, K (5 + a) b (by omega), Nat.zero_add]
          (repeat' split) <;> omega
        · have u := hbd.1 i hi6
          rw [K 1 i (by decide), K 2 i (by decide)]
          refine ⟨?_, ?_⟩ <;> (repeat' split) <;> omega
        · rw [K0]
          (repeat' split) <;> omega
        · rw [K0]
          (repeat' split) <;> omega
        · rw [K0]
          (repeat' split) <;> omega
theorem R_lend (h : R t V S) (ht : t < 800) (x y : Int32) {r : Option Value} {V1 : g_V} {S1 : g_L} (hD : S1 = S ∧ ((¬ (q_in x (V 0 1) ∧ q_in y (V 0 1)) ∧ g_no V (-1) r V1) ∨ (q_in x (V 0 1) ∧ q_in y (V 0 1)) ∧ ((x = y ∧ g_no V (-2) r V1) ∨ (¬ x = y ∧ V (hB 0 + 2) (q_n x) < 1 ∧ g_no V (-3) r V1) ∨ (¬ x = y ∧ 1 ≤ V (hB 0 + 2) (q_n x) ∧ ∃ V2, g_rem V V2 ∧ V1 = g_up (g_up (g_up V2 (hB 0 + 2) (q_n x) (V (hB 0 + 2) (q_n x) - 1)) (hB 0 + 2) (q_n y) (V (hB 0 + 2) (q_n y) + 1)) (hB 0 + (5 + q_n y)) (q_n x) (D_ow V (q_n y) (q_n x) + 1) ∧ r = some (.int (nI (D_ow V (q_n y) (q_n x) + 1))))))) : ∃ a9, r = some (.int a9) ∧ (M_OK V1) ∧ ∀ (r' : Option Value) (V3 : g_V) (S3 : g_L), (S3 = S1 ∧ ((¬ (q_in x (V1 201 4) ∧ q_in y (V1 201 4)) ∧ g_no V1 (-1) r' V3) ∨ (q_in x (V1 201 4) ∧ q_in y (V1 201 4)) ∧ ((x = y ∧ g_no V1 (-2) r' V3) ∨ (¬ x = y ∧ V1 207 (6 + q_n x) < 1 ∧ g_no V1 (-3) r' V3) ∨ (¬ x = y ∧ 1 ≤ V1 207 (6 + q_n x) ∧ V3 = g_up (g_up (g_up (g_nt V1) 207 (6 + q_n x) (V1 207 (6 + q_n x) - 1)) 207 (6 + q_n y) (V1 207 (6 + q_n y) + 1)) 207 (21 + 6 * q_n y + q_n x) (V1 207 (21 + 6 * q_n y + q_n x) + 1) ∧ r' = some (.int (nI (V1 207 (21 + 6 * q_n y + q_n x) + 1))))))) → r' = some (.int a9) ∧ R (t + 1) V3 S3 := by
  obtain ⟨rfl, hq⟩ := hD
  have hpg := R_pg_0 h
  have hbd := h.2.2.2.2.2 0 (by decide)
  obtain ⟨hb1, hb4, hb5, hb6⟩ := hbd
  have hbd := h.2.2.2.2.2 0 (by decide)
  obtain ⟨w18, w19, w20⟩ := hpg.2.1
  have hn := h.1.2.1.1
  rcases hq with ⟨q, e1, e2⟩ | ⟨q, hq⟩
  · rw [e2]
    refine ⟨_, e1, R_mok h (by omega), ?_⟩
    rintro r' V3 S3 ⟨rfl, hm⟩
    rw [h.1.1.2.1] at hm
    rcases hm with ⟨m, e3, e4⟩ | ⟨m, hm⟩
    · rw [e4]; exact ⟨e3, R_fr h g_fr_0 h.1.2.2 (by omega)⟩
    · exact absurd m q
  · have hx := q_n_lt q.1
    have hy := q_n_lt q.2
    obtain ⟨p1, p2, p3⟩ := hpg.1 (q_n x) (by omega)
    obtain ⟨s1, s2, s3⟩ := hpg.1 (q_n y) (by omega)
    have hbx := hb1 (q_n x) (by omega)
    have hby := hb1 (q_n y) (by omega)
    have pow := hpg.2.2 (q_n y) (q_n x) (by omega) (by omega)
    rcases hq with ⟨c, e1, e2⟩ | ⟨c, c2, e1, e2⟩ | ⟨c, c2, V2, hr, e2, e1⟩
    · rw [e2]
      refine ⟨_, e1, R_mok h (by omega), ?_⟩
      rintro r' V3 S3 ⟨rfl, hm⟩
      rw [h.1.1.2.1, p2, s2, pow] at hm
      rcases hm with ⟨m, _⟩ | ⟨m, ⟨m2, e3, e4⟩ | ⟨m2, m3, e3, e4⟩ | ⟨m2, m3, e4, e3⟩⟩
      · exact absurd q m
      · rw [e4]; exact ⟨e3, R_fr h g_fr_0 h.1.2.2 (by omega)⟩
      · exfalso; first | omega | contradiction | exact absurd c m2 | exact absurd m2 c
      · exfalso; first | omega | contradiction | exact absurd c m2 | exact absurd m2 c
    · rw [e2]
      refine ⟨_, e1, R_mok h (by omega), ?_⟩
      rintro r' V3 S3 ⟨rfl, hm⟩
      rw [h.1.1.2.1, p2, s2, pow] at hm
      rcases hm with ⟨m, _⟩ | ⟨m, ⟨m2, e3, e4⟩ | ⟨m2, m3, e3, e4⟩ | ⟨m2, m3, e4, e3⟩⟩
      · exact absurd q m
      · exfalso; first | omega | contradiction | exact absurd c m2 | exact absurd m2 c
      · rw [e4]; exact ⟨e3, R_fr h g_fr_0 h.1.2.2 (by omega)⟩
      · exfalso; first | omega | contradiction | exact absurd c m2 | exact absurd m2 c
    · have hz : hB 0 = 14 := rfl
      have o1 : ∀ c, (c < 14 ∨ 25 ≤ c) → V1 c = V2 c := fun c hc => by rw [e2, g_up_ne (by omega), g_up_ne (by omega), g_up_ne (by omega)]
      have hi : ∀ c, 201 ≤ c → V1 c = V c := fun c q => by rw [o1 c (Or.inr (by omega)), hr.hi (by omega)]
      have hM : M_OK V1 := M_OK_of (R_mok h (by omega)) (hi 201 (by decide)) (hi 203 (by decide)) (hi 204 (by decide)) (hi 205 (by decide)) (hi 207 (by decide))
      have G : ∀ c k, V1 c k = if c = hB 0 + (5 + q_n y) ∧ k = q_n x then V (hB 0 + (5 + q_n y)) (q_n x) + 1 else if c = hB 0 + 2 ∧ k = q_n y then V (hB 0 + 2) (q_n y) + 1 else if c = hB 0 + 2 ∧ k = q_n x then V (hB 0 + 2) (q_n x) - 1 else V2 c k := fun c k => by rw [e2]; rfl
      refine ⟨_, e1, hM, ?_⟩
      rintro r' V3 S3 ⟨rfl, hm⟩
      rw [hi 201 (by decide), h.1.1.2.1, hi 207 (by decide), p2, s2, pow] at hm
      rcases hm with ⟨m, _⟩ | ⟨m, ⟨m2, e3, e4⟩ | ⟨m2, m3, e3, e4⟩ | ⟨m2, m3, e4, e3⟩⟩
      · exact absurd q m
      · exfalso; first | omega | contradiction | exact absurd c m2 | exact absurd m2 c
      · exfalso; first | omega | contradiction | exact absurd c m2 | exact absurd m2 c
      · have h3 : ∀ c, c ≠ 207 → V3 c = g_nt V1 c := fun c hc => by rw [e4, g_up_ne hc, g_up_ne hc, g_up_ne hc]
        have F : ∀ k, V3 207 k = if (207 : Nat) = 207 ∧ k = 21 + 6 * q_n y + q_n x then V (hB 0 + (5 + q_n y)) (q_n x) + 1 else if (207 : Nat) = 207 ∧ k = 6 + q_n y then V (hB 0 + 2) (q_n y) + 1 else if (207 : Nat) = 207 ∧ k = 6 + q_n x then V (hB 0 + 2) (q_n x) - 1 else V 207 k := fun k => by
          rw [e4]
          show (if (207 : Nat) = 207 ∧ k = 21 + 6 * q_n y + q_n x then V (hB 0 + (5 + q_n y)) (q_n x) + 1 else if (207 : Nat) = 207 ∧ k = 6 + q_n y then V (hB 0 + 2) (q_n y) + 1 else if (207 : Nat) = 207 ∧ k = 6 + q_n x then V (hB 0 + 2) (q_n x) - 1 else g_nt V1 207 k) = _
          rw [g_nt_c (by decide) (by decide), hi 207 (by decide)]
        have K : ∀ r k, r < 11 → V3 (hB 0 + r) k = if hB 0 + r = hB 0 + (5 + q_n y) ∧ k = q_n x then V (hB 0 + (5 + q_n y)) (q_n x) + 1 else if hB 0 + r = hB 0 + 2 ∧ k = q_n y then V (hB 0 + 2) (q_n y) + 1 else if hB 0 + r = hB 0 + 2 ∧ k = q_n x then V (hB 0 + 2) (q_n x) - 1 else V (hB 0 + r) k := fun r k hr11 => by
          rw [h3 _ (by omega), g_nt_c (by omega) (by omega), G, hr.lo (by omega) (by omega)]
        have K0 : ∀ k, V3 (hB 0) k = if hB 0 = hB 0 + (5 + q_n y) ∧ k = q_n x then V (hB 0 + (5 + q_n y)) (q_n x) + 1 else if hB 0 = hB 0 + 2 ∧ k = q_n y then V (hB 0 + 2) (q_n y) + 1 else if hB 0 = hB 0 + 2 ∧ k = q_n x then V (hB 0 + 2) (q_n x) - 1 else V (hB 0) k := fun k => K 0 k (by decide)
        refine ⟨by rw [e3]; rfl, R_act h hr o1 h3 ⟨fun k hk => ?_, ⟨?_, ?_, ?_⟩, fun a b ha6 hb6 => ?_⟩ ⟨fun i hi6 => ?_, ?_, ?_, ?_⟩⟩
        · obtain ⟨u1, u2, u3⟩ := hpg.1 k hk
          rw [F, F, F, K 1 k (by decide), K 2 k (by decide), K 3 k (by decide), Nat.zero_add, Nat.zero_add, Nat.zero_add]
          refine ⟨?_, ?_, ?_⟩ <;> (repeat' split) <;> omega
        · rw [F, K0, Nat.zero_add]
          (repeat' split) <;> omega
        · rw [F, K0, Nat.zero_add]
          (repeat' split) <;> omega
        · rw [F, K0, Nat.zero_add]
          (repeat' split) <;> omega
        · have u := hpg.2.2 a b ha6 hb6
          rw [F, K (5 + a) b (by omega), Nat.zero_add]
          (repeat' split) <;> omega
        · have u := hbd.1 i hi6
          rw [K 1 i (by decide), K 2 i (by decide)]
          refine ⟨?_, ?_⟩ <;> (repeat' split) <;> omega
        · rw [K0]
          (repeat' split) <;> omega
        · rw [K0]
          (repeat' split) <;> omega
        · rw [K0]
          (repeat' split) <;> omega
theorem R_stick (h : R t V S) (ht : t < 800) (x : Int32) {r : Option Value} {V1 : g_V} {S1 : g_L} (hD : S1 = S ∧ ((¬ q_in x (V 0 1) ∧ g_no V (-1) r V1) ∨ q_in x (V 0 1) ∧ (((V (hB 0) 4).testBit (q_n x) = true ∧ g_no V (-3) r V1) ∨ (¬ (V (hB 0) 4).testBit (q_n x) = true ∧ ∃ V2, g_rem V V2 ∧ V1 = g_up V2 (hB 0) 4 (V (hB 0) 4 ||| 1 <<< q_n x) ∧ r = some (.int (nI (V (hB 0 + 3) (q_n x)))))))) : ∃ a9, r = some (.int a9) ∧ (M_OK V1) ∧ ∀ (r' : Option Value) (V3 : g_V) (S3 : g_L), (S3 = S1 ∧ ((¬ q_in x (V1 201 4) ∧ g_no V1 (-1) r' V3) ∨ q_in x (V1 201 4) ∧ (((V1 207 18).testBit (q_n x) = true ∧ g_no V1 (-3) r' V3) ∨ (¬ (V1 207 18).testBit (q_n x) = true ∧ V3 = g_up (g_nt V1) 207 18 (V1 207 18 ||| 1 <<< q_n x) ∧ r' = some (.int (nI (V1 207 (12 + q_n x)))))))) → r' = some (.int a9) ∧ R (t + 1) V3 S3 := by
  obtain ⟨rfl, hq⟩ := hD
  have hpg := R_pg_0 h
  have hbd := h.2.2.2.2.2 0 (by decide)
  obtain ⟨hb1, hb4, hb5, hb6⟩ := hbd
  have hbd := h.2.2.2.2.2 0 (by decide)
  obtain ⟨w18, w19, w20⟩ := hpg.2.1
  have hn := h.1.2.1.1
  rcases hq with ⟨q, e1, e2⟩ | ⟨q, hq⟩
  · rw [e2]
    refine ⟨_, e1, R_mok h (by omega), ?_⟩
    rintro r' V3 S3 ⟨rfl, hm⟩
    rw [h.1.1.2.1] at hm
    rcases hm with ⟨m, e3, e4⟩ | ⟨m, hm⟩
    · rw [e4]; exact ⟨e3, R_fr h g_fr_0 h.1.2.2 (by omega)⟩
    · exact absurd m q
  · have hx := q_n_lt q
    obtain ⟨p1, p2, p3⟩ := hpg.1 (q_n x) (by omega)
    rcases hq with ⟨c, e1, e2⟩ | ⟨c, V2, hr, e2, e1⟩
    · rw [e2]
      refine ⟨_, e1, R_mok h (by omega), ?_⟩
      rintro r' V3 S3 ⟨rfl, hm⟩
      rw [h.1.1.2.1, w18] at hm
      rcases hm with ⟨m, _⟩ | ⟨m, ⟨m2, e3, e4⟩ | ⟨m2, e4, e3⟩⟩
      · exact absurd q m
      · rw [e4]; exact ⟨e3, R_fr h g_fr_0 h.1.2.2 (by omega)⟩
      · exact absurd c m2
    · have hv : V (hB 0) 4 ||| 1 <<< q_n x < 64 := Nat.or_lt_two_pow (n := 6) hb4 (q_bit_lt (by omega))
      have hz : hB 0 = 14 := rfl
      have o1 : ∀ c, (c < 14 ∨ 25 ≤ c) → V1 c = V2 c := fun c hc => by rw [e2, g_up_ne (by omega)]
      have hi : ∀ c, 201 ≤ c → V1 c = V c := fun c q => by rw [o1 c (Or.inr (by omega)), hr.hi (by omega)]
      have hM : M_OK V1 := M_OK_of (R_mok h (by omega)) (hi 201 (by decide)) (hi 203 (by decide)) (hi 204 (by decide)) (hi 205 (by decide)) (hi 207 (by decide))
      have G : ∀ c k, V1 c k = if c = hB 0 ∧ k = 4 then V (hB 0) 4 ||| 1 <<< q_n x else V2 c k := fun c k => by rw [e2]; rfl
      refine ⟨_, e1, hM, ?_⟩
      rintro r' V3 S3 ⟨rfl, hm⟩
      rw [hi 201 (by decide), h.1.1.2.1, hi 207 (by decide), w18, p3] at hm
      rcases hm with ⟨m, _⟩ | ⟨m, ⟨m2, e3, e4⟩ | ⟨m2, e4, e3⟩⟩
      · exact absurd q m
      · exact absurd m2 c
      · have h3 : ∀ c, c ≠ 207 → V3 c = g_nt V1 c := fun c hc => by rw [e4, g_up_ne hc]
        have F : ∀ k, V3 207 k = if (207 : Nat) = 207 ∧ k = 18 then V (hB 0) 4 ||| 1 <<< q_n x else V 207 k := fun k => by
          rw [e4]
          show (if (207 : Nat) = 207 ∧ k = 18 then V (hB 0) 4 ||| 1 <<< q_n x else g_nt V1 207 k) = _
          rw [g_nt_c (by decide) (by decide), hi 207 (by decide)]
        have K : ∀ r k, r < 11 → V3 (hB 0 + r) k = if hB 0 + r = hB 0 ∧ k = 4 then V (hB 0) 4 ||| 1 <<< q_n x else V (hB 0 + r) k := fun r k hr11 => by
          rw [h3 _ (by omega), g_nt_c (by omega) (by omega), G, hr.lo (by omega) (by omega)]
        have K0 : ∀ k, V3 (hB 0) k = if hB 0 = hB 0 ∧ k = 4 then V (hB 0) 4 ||| 1 <<< q_n x else V (hB 0) k := fun k => K 0 k (by decide)
        refine ⟨e3, R_act h hr o1 h3 ⟨fun k hk => ?_, ⟨?_, ?_, ?_⟩, fun a b ha6 hb6 => ?_⟩ ⟨fun i hi6 => ?_, ?_, ?_, ?_⟩⟩
        · obtain ⟨u1, u2, u3⟩ := hpg.1 k hk
          rw [F, F, F, K 1 k (by decide), K 2 k (by decide), K 3 k (by decide), Nat.zero_add, Nat.zero_add, Nat.zero_add]
          refine ⟨?_, ?_, ?_⟩ <;> (repeat' split) <;> omega
        · rw [F, K0, Nat.zero_add]
          (repeat' split) <;> omega
        · rw [F, K0, Nat.zero_add]
          (repeat' split) <;> omega
        · rw [F, K0, Nat.zero_add]
          (repeat' split) <;> omega
        · have u := hpg.2.2 a b ha6 hb6
          rw [F, K (5 + a) b (by omega), Nat.zero_add]
          (repeat' split) <;> omega
        · have u := hbd.1 i hi6
          rw [K 1 i (by decide), K 2 i (by decide)]
          refine ⟨?_, ?_⟩ <;> (repeat' split) <;> omega
        · rw [K0]
          (repeat' split) <;> omega
        · rw [K0]
          (repeat' split) <;> omega
        · rw [K0]
          (repeat' split) <;> omega
theorem R_pull (h : R t V S) (ht : t < 800) (x y : Int32) {r : Option Value} {V1 : g_V} {S1 : g_L} (hD : S1 = S ∧ ((¬ (q_in x (V 0 1) ∧ q_in y (V 0 1)) ∧ g_no V (-1) r V1) ∨ (q_in x (V 0 1) ∧ q_in y (V 0 1)) ∧ ((¬ (V (hB 0) 4).testBit (q_n y) = true ∧ g_no V (-3) r V1) ∨ ((V (hB 0) 4).testBit (q_n y) = true ∧ ∃ V2, g_rem V V2 ∧ V1 = g_up (g_up V2 (hB 0) 4 (V (hB 0) 4 &&& (63 ^^^ (1 <<< q_n y)))) (hB 0 + 3) (q_n y) (q_n x) ∧ r = some (.int (nI (V (hB 0 + 3) (q_n y)))))))) : ∃ a9, r = some (.int a9) ∧ (M_OK V1) ∧ ∀ (r' : Option Value) (V3 : g_V) (S3 : g_L), (S3 = S1 ∧ ((¬ (q_in x (V1 201 4) ∧ q_in y (V1 201 4)) ∧ g_no V1 (-1) r' V3) ∨ (q_in x (V1 201 4) ∧ q_in y (V1 201 4)) ∧ ((¬ (V1 207 18).testBit (q_n y) = true ∧ g_no V1 (-3) r' V3) ∨ ((V1 207 18).testBit (q_n y) = true ∧ V3 = g_up (g_up (g_nt V1) 207 18 (V1 207 18 &&& (63 ^^^ (1 <<< q_n y)))) 207 (12 + q_n y) (q_n x) ∧ r' = some (.int (nI (V1 207 (12 + q_n y)))))))) → r' = some (.int a9) ∧ R (t + 1) V3 S3 := by
  obtain ⟨rfl, hq⟩ := hD
  have hpg := R_pg_0 h
  have hbd := h.2.2.2.2.2 0 (by decide)
  obtain ⟨hb1, hb4, hb5, hb6⟩ := hbd
  have hbd := h.2.2.2.2.2 0 (by decide)
  obtain ⟨w18, w19, w20⟩ := hpg.2.1
  have hn := h.1.2.1.1
  rcases hq with ⟨q, e1, e2⟩ | ⟨q, hq⟩
  · rw [e2]
    refine ⟨_, e1, R_mok h (by omega), ?_⟩
    rintro r' V3 S3 ⟨rfl, hm⟩
    rw [h.1.1.2.1] at hm
    rcases hm with ⟨m, e3, e4⟩ | ⟨m, hm⟩
    · rw [e4]; exact ⟨e3, R_fr h g_fr_0 h.1.2.2 (by omega)⟩
    · exact absurd m q
  · have hx := q_n_lt q.1
    have hy := q_n_lt q.2
    obtain ⟨s1, s2, s3⟩ := hpg.1 (q_n y) (by omega)
    rcases hq with ⟨c, e1, e2⟩ | ⟨c, V2, hr, e2, e1⟩
    · rw [e2]
      refine ⟨_, e1, R_mok h (by omega), ?_⟩
      rintro r' V3 S3 ⟨rfl, hm⟩
      rw [h.1.1.2.1, w18] at hm
      rcases hm with ⟨m, _⟩ | ⟨m, ⟨m2, e3, e4⟩ | ⟨m2, e4, e3⟩⟩
      · exact absurd q m
      · rw [e4]; exact ⟨e3, R_fr h g_fr_0 h.1.2.2 (by omega)⟩
      · exact absurd m2 c
    · have hv : V (hB 0) 4 &&& (63 ^^^ 1 <<< q_n y) < 64 := Nat.lt_of_le_of_lt Nat.and_le_left hb4
      have hz : hB 0 = 14 := rfl
      have o1 : ∀ c, (c < 14 ∨ 25 ≤ c) → V1 c = V2 c := fun c hc => by rw [e2, g_up_ne (by omega), g_up_ne (by omega)]
      have hi : ∀ c, 201 ≤ c → V1 c = V c := fun c q => by rw [o1 c (Or.inr (by omega)), hr.hi (by omega)]
      have hM : M_OK V1 := M_OK_of (R_mok h (by omega)) (hi 201 (by decide)) (hi 203 (by decide)) (hi 204 (by decide)) (hi 205 (by decide)) (hi 207 (by decide))
      have G : ∀ c k, V1 c k = if c = hB 0 + 3 ∧ k = q_n y then q_n x else if c = hB 0 ∧ k = 4 then V (hB 0) 4 &&& (63 ^^^ 1 <<< q_n y) else V2 c k := fun c k => by rw [e2]; rfl
      refine ⟨_, e1, hM, ?_⟩
      rintro r' V3 S3 ⟨rfl, hm⟩
      rw [hi 201 (by decide), h.1.1.2.1, hi 207 (by decide), w18, s3] at hm
      rcases hm with ⟨m, _⟩ | ⟨m, ⟨m2, e3, e4⟩ | ⟨m2, e4, e3⟩⟩
      · exact absurd q m
      · exact absurd c m2
      · have h3 : ∀ c, c ≠ 207 → V3 c = g_nt V1 c := fun c hc => by rw [e4, g_up_ne hc, g_up_ne hc]
        have F : ∀ k, V3 207 k = if (207 : Nat) = 207 ∧ k = 12 + q_n y then q_n x else if (207 : Nat) = 207 ∧ k = 18 then V (hB 0) 4 &&& (63 ^^^ 1 <<< q_n y) else V 207 k := fun k => by
          rw [e4]
          show (if (207 : Nat) = 207 ∧ k = 12 + q_n y then q_n x else if (207 : Nat) = 207 ∧ k = 18 then V (hB 0) 4 &&& (63 ^^^ 1 <<< q_n y) else g_nt V1 207 k) = _
          rw [g_nt_c (by decide) (by decide), hi 207 (by decide)]
        have K : ∀ r k, r < 11 → V3 (hB 0 + r) k = if hB 0 + r = hB 0 + 3 ∧ k = q_n y then q_n x else if hB 0 + r = hB 0 ∧ k = 4 then V (hB 0) 4 &&& (63 ^^^ 1 <<< q_n y) else V (hB 0 + r) k := fun r k hr11 => by
          rw [h3 _ (by omega), g_nt_c (by omega) (by omega), G, hr.lo (by omega) (by omega)]
        have K0 : ∀ k, V3 (hB 0) k = if hB 0 = hB 0 + 3 ∧ k = q_n y then q_n x else if hB 0 = hB 0 ∧ k = 4 then V (hB 0) 4 &&& (63 ^^^ 1 <<< q_n y) else V (hB 0) k := fun k => K 0 k (by decide)
        refine ⟨e3, R_act h hr o1 h3 ⟨fun k hk => ?_, ⟨?_, ?_, ?_⟩, fun a b ha6 hb6 => ?_⟩ ⟨fun i hi6 => ?_, ?_, ?_, ?_⟩⟩
        · obtain ⟨u1, u2, u3⟩ := hpg.1 k hk
          rw [F, F, F, K 1 k (by decide), K 2 k (by decide), K 3 k (by decide), Nat.zero_add, Nat.zero_add, Nat.zero_add]
          refine ⟨?_, ?_, ?_⟩ <;> (repeat' split) <;> omega
        · rw [F, K0, Nat.zero_add]
          (repeat' split) <;> omega
        · rw [F, K0, Nat.zero_add]
          (repeat' split) <;> omega
        · rw [F, K0, Nat.zero_add]
          (repeat' split) <;> omega
        · have u := hpg.2.2 a b ha6 hb6
          rw [F, K (5 + a) b (by omega), Nat.zero_add]
          (repeat' split) <;> omega
        · have u := hbd.1 i hi6
          rw [K 1 i (by decide), K 2 i (by decide)]
          refine ⟨?_, ?_⟩ <;> (repeat' split) <;> omega
        · rw [K0]
          (repeat' split) <;> omega
        · rw [K0]
          (repeat' split) <;> omega
        · rw [K0]
          (repeat' split) <;> omega
theorem R_dam (h : R t V S) (ht : t < 800) (x : Int32) {r : Option Value} {V1 : g_V} {S1 : g_L} (hD : S1 = S ∧ ((¬ (q_in x (V 0 1) ∧ q_n x + 1 < V 0 1) ∧ g_no V (-1) r V1) ∨ (q_in x (V 0 1) ∧ q_n x + 1 < V 0 1) ∧ ∃ V2, g_rem V V2 ∧ V1 = g_up V2 (hB 0) 5 (V (hB 0) 5 ^^^ 1 <<< q_n x) ∧ r = some (.int (nI (g_z (decide ((V (hB 0) 5 ^^^ 1 <<< q_n x).testBit (q_n x) = true))))))) : ∃ a9, r = some (.int a9) ∧ (M_OK V1) ∧ ∀ (r' : Option Value) (V3 : g_V) (S3 : g_L), (S3 = S1 ∧ ((¬ (q_in x (V1 201 4) ∧ q_n x + 1 < V1 201 4) ∧ g_no V1 (-1) r' V3) ∨ (q_in x (V1 201 4) ∧ q_n x + 1 < V1 201 4) ∧ V3 = g_up (g_nt V1) 207 19 (V1 207 19 ^^^ 1 <<< q_n x) ∧ r' = some (.int (nI (g_z (decide ((V1 207 19 ^^^ 1 <<< q_n x).testBit (q_n x) = true))))))) → r' = some (.int a9) ∧ R (t + 1) V3 S3 := by
  obtain ⟨rfl, hq⟩ := hD
  have hpg := R_pg_0 h
  have hbd := h.2.2.2.2.2 0 (by decide)
  obtain ⟨hb1, hb4, hb5, hb6⟩ := hbd
  have hbd := h.2.2.2.2.2 0 (by decide)
  obtain ⟨w18, w19, w20⟩ := hpg.2.1
  have hn := h.1.2.1.1
  rcases hq with ⟨q, e1, e2⟩ | ⟨q, V2, hr, e2, e1⟩
  · rw [e2]
    refine ⟨_, e1, R_mok h (by omega), ?_⟩
    rintro r' V3 S3 ⟨rfl, hm⟩
    rw [h.1.1.2.1] at hm
    rcases hm with ⟨m, e3, e4⟩ | ⟨m, hm⟩
    · rw [e4]; exact ⟨e3, R_fr h g_fr_0 h.1.2.2 (by omega)⟩
    · exact absurd m q
  · have hx := q_n_lt q.1
    have hv : V (hB 0) 5 ^^^ 1 <<< q_n x < 64 := Nat.xor_lt_two_pow (n := 6) hb5 (q_bit_lt (by omega))
    have hz : hB 0 = 14 := rfl
    have o1 : ∀ c, (c < 14 ∨ 25 ≤ c) → V1 c = V2 c := fun c hc => by rw [e2, g_up_ne (by omega)]
    have hi : ∀ c, 201 ≤ c → V1 c = V c := fun c q => by rw [o1 c (Or.inr (by omega)), hr.hi (by omega)]
    have hM : M_OK V1 := M_OK_of (R_mok h (by omega)) (hi 201 (by decide)) (hi 203 (by decide)) (hi 204 (by decide)) (hi 205 (by decide)) (hi 207 (by decide))
    have G : ∀ c k, V1 c k = if c = hB 0 ∧ k = 5 then V (hB 0) 5 ^^^ 1 <<< q_n x else V2 c k := fun c k => by rw [e2]; rfl
    refine ⟨_, e1, hM, ?_⟩
    rintro r' V3 S3 ⟨rfl, hm⟩
    rw [hi 201 (by decide), h.1.1.2.1, hi 207 (by decide), w19] at hm
    rcases hm with ⟨m, _⟩ | ⟨m, e4, e3⟩
    · exact absurd q m
    · have h3 : ∀ c, c ≠ 207 → V3 c = g_nt V1 c := fun c hc => by rw [e4, g_up_ne hc]
      have F : ∀ k, V3 207 k = if (207 : Nat) = 207 ∧ k = 19 then V (hB 0) 5 ^^^ 1 <<< q_n x else V 207 k := fun k => by
        rw [e4]
        show (if (207 : Nat) = 207 ∧ k = 19 then V (hB 0) 5 ^^^ 1 <<< q_n x else g_nt V1 207 k) = _
        rw [g_nt_c (by decide) (by decide), hi 207 (by decide)]
      have K : ∀ r k, r < 11 → V3 (hB 0 + r) k = if hB 0 + r = hB 0 ∧ k = 5 then V (hB 0) 5 ^^^ 1 <<< q_n x else V (hB 0 + r) k := fun r k hr11 => by
        rw [h3 _ (by omega), g_nt_c (by omega) (by omega), G, hr.lo (by omega) (by omega)]
      have K0 : ∀ k, V3 (hB 0) k = if hB 0 = hB 0 ∧ k = 5 then V (hB 0) 5 ^^^ 1 <<< q_n x else V (hB 0) k := fun k => K 0 k (by decide)
      refine ⟨e3, R_act h hr o1 h3 ⟨fun k hk => ?_, ⟨?_, ?_, ?_⟩, fun a b ha6 hb6 => ?_⟩ ⟨fun i hi6 => ?_, ?_, ?_, ?_⟩⟩
      · obtain ⟨u1, u2, u3⟩ := hpg.1 k hk
        rw [F, F, F, K 1 k (by decide), K 2 k (by decide), K 3 k (by decide), Nat.zero_add, Nat.zero_add, Nat.zero_add]
        refine ⟨?_, ?_, ?_⟩ <;> (repeat' split) <;> omega
      · rw [F, K0, Nat.zero_add]
        (repeat' split) <;> omega
      · rw [F, K0, Nat.zero_add]
        (repeat' split) <;> omega
      · rw [F, K0, Nat.zero_add]
        (repeat' split) <;> omega
      · have u := hpg.2.2 a b ha6 hb6
        rw [F, K (5 + a) b (by omega), Nat.zero_add]
        (repeat' split) <;> omega
      · have u := hbd.1 i hi6
        rw [K 1 i (by decide), K 2 i (by decide)]
        refine ⟨?_, ?_⟩ <;> (repeat' split) <;> omega
      · rw [K0]
        (repeat' split) <;> omega
      · rw [K0]
        (repeat' split) <;> omega
      · rw [K0]
        (repeat' split) <;> omega
end REB
