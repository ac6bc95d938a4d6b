/-! The two side by side: calls that change nothing that lasts. -/
theorem q_n_lt {x : Int32} {n : Nat} (h : q_in x n) : q_n x < n := by
  have := h.1
  have := h.2
  unfold q_n
  omega
theorem g_fr_of {V W : g_V} (h : ∀ c, c ≠ 8 → c ≠ 9 → c ≠ 10 → c ≠ 11 → c ≠ 12 → c ≠ 13 → W c = V c) : g_fr V W :=
  ⟨fun c hc => h c (by omega) (by omega) (by omega) (by omega) (by omega) (by omega), by rw [h 201 (by decide) (by decide) (by decide) (by decide) (by decide) (by decide)], by rw [h 201 (by decide) (by decide) (by decide) (by decide) (by decide) (by decide)], by rw [h 201 (by decide) (by decide) (by decide) (by decide) (by decide) (by decide)], by rw [h 201 (by decide) (by decide) (by decide) (by decide) (by decide) (by decide)]⟩
theorem g_fr_m {V W : g_V} (h : ∀ c, c ≠ 208 → c ≠ 212 → c ≠ 213 → W c = V c) : g_fr V W :=
  ⟨fun c hc => h c (by omega) (by omega) (by omega), by rw [h 201 (by decide) (by decide) (by decide)], by rw [h 201 (by decide) (by decide) (by decide)], by rw [h 201 (by decide) (by decide) (by decide)], by rw [h 201 (by decide) (by decide) (by decide)]⟩
theorem g_fr_2 {V W : g_V} (h : ∀ c, c ≠ 201 → c ≠ 206 → c ≠ 208 → c ≠ 212 → c ≠ 213 → W c = V c) (h2 : ∀ k, k = 0 ∨ k = 2 ∨ k = 4 ∨ k = 14 → W 201 k = V 201 k) : g_fr V W :=
  ⟨fun c hc => h c (by omega) (by omega) (by omega) (by omega) (by omega), h2 0 (by decide), h2 2 (by decide), h2 4 (by decide), h2 14 (by decide)⟩
section REQ
variable {t : Nat} {V : g_V} {S : g_L}
theorem R_201 {W : g_V} (h : R t V S) (hf : g_fr V W) : W 201 4 = V 0 1 := hf.2.2.2.1.trans h.1.1.2.1
theorem R_about (h : R t V S) (ht : t < 800) (w : Int32) {r : Option Value} {V1 : g_V} {S1 : g_L} (hD : r = some (.int (D_about V w)) ∧ V1 = V ∧ S1 = S) : ∃ a9, r = some (.int a9) ∧ (M_OK V1) ∧ ∀ (r' : Option Value) (V3 : g_V) (S3 : g_L), (r' = some (.int (D_about (g_cv V1) w)) ∧ V3 = V1 ∧ S3 = S1) → r' = some (.int a9) ∧ R (t + 1) V3 S3 := by
  have ha := R_ag h
  have hn := ha.1.1
  have hc := ha.1.2.1
  obtain ⟨rfl, e1, e2⟩ := hD
  rw [e1, e2]
  refine ⟨_, rfl, R_mok h (by omega), ?_⟩
  rintro _ V3 S3 ⟨rfl, e3, e4⟩
  rw [e3, e4]
  refine ⟨?_, R_fr h g_fr_0 h.1.2.2 (by omega)⟩
  rw [A_about ha]
theorem R_farm (h : R t V S) (ht : t < 800) (x w : Int32) {r : Option Value} {V1 : g_V} {S1 : g_L} (hD : r = some (.int (if q_in x (V 0 1) then D_farm V (q_n x) w else -1)) ∧ V1 = V ∧ S1 = S) : ∃ a9, r = some (.int a9) ∧ (M_OK V1) ∧ ∀ (r' : Option Value) (V3 : g_V) (S3 : g_L), (r' = some (.int (if q_in x (g_cv V1 0 1) then D_farm (g_cv V1) (q_n x) w else -1)) ∧ V3 = V1 ∧ S3 = S1) → r' = some (.int a9) ∧ R (t + 1) V3 S3 := by
  have ha := R_ag h
  have hn := ha.1.1
  have hc := ha.1.2.1
  obtain ⟨rfl, e1, e2⟩ := hD
  rw [e1, e2]
  refine ⟨_, rfl, R_mok h (by omega), ?_⟩
  rintro _ V3 S3 ⟨rfl, e3, e4⟩
  rw [e3, e4]
  refine ⟨?_, R_fr h g_fr_0 h.1.2.2 (by omega)⟩
  rw [hc]
  by_cases q : q_in x (V 0 1)
  · have := q_n_lt q
    rw [if_pos q, if_pos q, A_farm ha (by omega)]
  · rw [if_neg q, if_neg q]
theorem R_owes (h : R t V S) (ht : t < 800) (x y : Int32) {r : Option Value} {V1 : g_V} {S1 : g_L} (hD : r = some (.int (if q_in x (V 0 1) ∧ q_in y (V 0 1) then nI (D_ow V (q_n x) (q_n y)) else -1)) ∧ V1 = V ∧ S1 = S) : ∃ a9, r = some (.int a9) ∧ (M_OK V1) ∧ ∀ (r' : Option Value) (V3 : g_V) (S3 : g_L), (r' = some (.int (if q_in x (g_cv V1 0 1) ∧ q_in y (g_cv V1 0 1) then nI (D_ow (g_cv V1) (q_n x) (q_n y)) else -1)) ∧ V3 = V1 ∧ S3 = S1) → r' = some (.int a9) ∧ R (t + 1) V3 S3 := by
  have ha := R_ag h
  have hn := ha.1.1
  have hc := ha.1.2.1
  obtain ⟨rfl, e1, e2⟩ := hD
  rw [e1, e2]
  refine ⟨_, rfl, R_mok h (by omega), ?_⟩
  rintro _ V3 S3 ⟨rfl, e3, e4⟩
  rw [e3, e4]
  refine ⟨?_, R_fr h g_fr_0 h.1.2.2 (by omega)⟩
  rw [hc]
  by_cases q : q_in x (V 0 1) ∧ q_in y (V 0 1)
  · have h1 := q_n_lt q.1
    have h2 := q_n_lt q.2
    rw [if_pos q, if_pos q, ha.2.2.2 _ _ (by omega) (by omega)]
  · rw [if_neg q, if_neg q]
theorem R_breaks (h : R t V S) (ht : t < 800) (x : Int32) {r : Option Value} {V1 : g_V} {S1 : g_L} (hD : r = some (.int (if q_in x 21 then nI (q_brk (V 0 1) (D_str V) (q_n x)) else -2)) ∧ V1 = V ∧ S1 = S) : ∃ a9, r = some (.int a9) ∧ (M_OK V1) ∧ ∀ (r' : Option Value) (V3 : g_V) (S3 : g_L), (r' = some (.int (if q_in x 21 then nI (q_brk (g_cv V1 0 1) (D_str (g_cv V1)) (q_n x)) else -2)) ∧ V3 = V1 ∧ S3 = S1) → r' = some (.int a9) ∧ R (t + 1) V3 S3 := by
  have ha := R_ag h
  have hn := ha.1.1
  have hc := ha.1.2.1
  obtain ⟨rfl, e1, e2⟩ := hD
  rw [e1, e2]
  refine ⟨_, rfl, R_mok h (by omega), ?_⟩
  rintro _ V3 S3 ⟨rfl, e3, e4⟩
  rw [e3, e4]
  refine ⟨?_, R_fr h g_fr_0 h.1.2.2 (by omega)⟩
  rw [A_brk ha]
theorem R_drowns (h : R t V S) (ht : t < 800) (x : Int32) {r : Option Value} {V1 : g_V} {S1 : g_L} (hD : r = some (.int (if q_in x 21 then nI (q_wet (V 0 1) (V (hB 0) 5) (q_brk (V 0 1) (D_str V) (q_n x))) else -2)) ∧ V1 = V ∧ S1 = S) : ∃ a9, r = some (.int a9) ∧ (M_OK V1) ∧ ∀ (r' : Option Value) (V3 : g_V) (S3 : g_L), (r' = some (.int (if q_in x 21 then nI (q_wet (g_cv V1 0 1) (g_cv V1 (hB 0) 5) (q_brk (g_cv V1 0 1) (D_str (g_cv V1)) (q_n x))) else -2)) ∧ V3 = V1 ∧ S3 = S1) → r' = some (.int a9) ∧ R (t + 1) V3 S3 := by
  have ha := R_ag h
  have hn := ha.1.1
  have hc := ha.1.2.1
  obtain ⟨rfl, e1, e2⟩ := hD
  rw [e1, e2]
  refine ⟨_, rfl, R_mok h (by omega), ?_⟩
  rintro _ V3 S3 ⟨rfl, e3, e4⟩
  rw [e3, e4]
  refine ⟨?_, R_fr h g_fr_0 h.1.2.2 (by omega)⟩
  rw [A_brk ha, A_wt ha]
theorem R_loss (h : R t V S) (ht : t < 800) (x : Int32) {r : Option Value} {V1 : g_V} {S1 : g_L} (hD : r = some (.int (if q_in x 21 then nI (q_pick (V 0 1) (V 4) (q_wet (V 0 1) (V (hB 0) 5) (q_brk (V 0 1) (D_str V) (q_n x)))) else -2)) ∧ V1 = V ∧ S1 = S) : ∃ a9, r = some (.int a9) ∧ (M_OK V1) ∧ ∀ (r' : Option Value) (V3 : g_V) (S3 : g_L), (r' = some (.int (if q_in x 21 then nI (q_pick (g_cv V1 0 1) (g_cv V1 4) (q_wet (g_cv V1 0 1) (g_cv V1 (hB 0) 5) (q_brk (g_cv V1 0 1) (D_str (g_cv V1)) (q_n x)))) else -2)) ∧ V3 = V1 ∧ S3 = S1) → r' = some (.int a9) ∧ R (t + 1) V3 S3 := by
  have ha := R_ag h
  have hn := ha.1.1
  have hc := ha.1.2.1
  obtain ⟨rfl, e1, e2⟩ := hD
  rw [e1, e2]
  refine ⟨_, rfl, R_mok h (by omega), ?_⟩
  rintro _ V3 S3 ⟨rfl, e3, e4⟩
  rw [e3, e4]
  refine ⟨?_, R_fr h g_fr_0 h.1.2.2 (by omega)⟩
  rw [A_brk ha, A_wt ha, A_pick ha]
theorem R_needs (h : R t V S) (ht : t < 800) (x : Int32) {r : Option Value} {V1 : g_V} {S1 : g_L} (hD : r = some (.int (if q_in x 21 then nI (q_lack (V 0 1) (D_str V) (1 <<< V 0 1 - 1) (q_n x)) else -2)) ∧ V1 = V ∧ S1 = S) : ∃ a9, r = some (.int a9) ∧ (M_OK V1) ∧ ∀ (r' : Option Value) (V3 : g_V) (S3 : g_L), (r' = some (.int (if q_in x 21 then nI (q_lack (g_cv V1 0 1) (D_str (g_cv V1)) (1 <<< g_cv V1 0 1 - 1) (q_n x)) else -2)) ∧ V3 = V1 ∧ S3 = S1) → r' = some (.int a9) ∧ R (t + 1) V3 S3 := by
  have ha := R_ag h
  have hn := ha.1.1
  have hc := ha.1.2.1
  obtain ⟨rfl, e1, e2⟩ := hD
  rw [e1, e2]
  refine ⟨_, rfl, R_mok h (by omega), ?_⟩
  rintro _ V3 S3 ⟨rfl, e3, e4⟩
  rw [e3, e4]
  refine ⟨?_, R_fr h g_fr_0 h.1.2.2 (by omega)⟩
  rw [A_lack ha, hc]
theorem R_all (h : R t V S) (ht : t < 800)  {r : Option Value} {V1 : g_V} {S1 : g_L} (hD : r = some (.int (q_allb (q_all (D_lone V) (V 0 1)))) ∧ V1 = V ∧ S1 = S) : ∃ a9, r = some (.int a9) ∧ (M_OK V1) ∧ ∀ (r' : Option Value) (V3 : g_V) (S3 : g_L), (r' = some (.int (q_allb (q_all (D_lone (g_cv V1)) (g_cv V1 0 1)))) ∧ V3 = V1 ∧ S3 = S1) → r' = some (.int a9) ∧ R (t + 1) V3 S3 := by
  have ha := R_ag h
  have hn := ha.1.1
  have hc := ha.1.2.1
  obtain ⟨rfl, e1, e2⟩ := hD
  rw [e1, e2]
  refine ⟨_, rfl, R_mok h (by omega), ?_⟩
  rintro _ V3 S3 ⟨rfl, e3, e4⟩
  rw [e3, e4]
  refine ⟨?_, R_fr h g_fr_0 h.1.2.2 (by omega)⟩
  rw [A_lone ha, hc]
theorem R_net (h : R t V S) (ht : t < 800) (x : Int32) {r : Option Value} {V1 : g_V} {S1 : g_L} (hD : r = some (.int (if q_in x (V 0 1) then nI 100 + q_net (D_ow V) (q_n x) (V 0 1) else -1)) ∧ V1 = V ∧ S1 = S) : ∃ a9, r = some (.int a9) ∧ (M_OK V1) ∧ ∀ (r' : Option Value) (V3 : g_V) (S3 : g_L), (r' = some (.int (if q_in x (g_cv V1 0 1) then nI 100 + q_net (D_ow (g_cv V1)) (q_n x) (g_cv V1 0 1) else -1)) ∧ V3 = V1 ∧ S3 = S1) → r' = some (.int a9) ∧ R (t + 1) V3 S3 := by
  have ha := R_ag h
  have hn := ha.1.1
  have hc := ha.1.2.1
  obtain ⟨rfl, e1, e2⟩ := hD
  rw [e1, e2]
  refine ⟨_, rfl, R_mok h (by omega), ?_⟩
  rintro _ V3 S3 ⟨rfl, e3, e4⟩
  rw [e3, e4]
  refine ⟨?_, R_fr h g_fr_0 h.1.2.2 (by omega)⟩
  rw [hc]
  by_cases q : q_in x (V 0 1)
  · have := q_n_lt q
    have hnet := A_net ha (f := q_n x) (by omega)
    rw [hc] at hnet
    rw [if_pos q, if_pos q, hnet]
  · rw [if_neg q, if_neg q]
theorem R_wet (h : R t V S) (ht : t < 800) (c0 w0 : Int32) {r : Option Value} {V1 : g_V} {S1 : g_L} (hD : r = some (.int (if q_in c0 (1 <<< V 0 1) ∧ q_in w0 3 then D_wetr V (q_n c0) w0 else -2)) ∧ V1 = V ∧ S1 = S) : ∃ a9, r = some (.int a9) ∧ (M_OK V1) ∧ ∀ (r' : Option Value) (V3 : g_V) (S3 : g_L), (r' = some (.int (if q_in c0 (1 <<< V1 201 4) ∧ q_in w0 3 then D_wetr (g_cv V1) (q_n c0) w0 else -2)) ∧ V3 = V1 ∧ S3 = S1) → r' = some (.int a9) ∧ R (t + 1) V3 S3 := by
  have ha := R_ag h
  have hn := ha.1.1
  have hc := ha.1.2.1
  obtain ⟨rfl, e1, e2⟩ := hD
  rw [e1, e2]
  refine ⟨_, rfl, R_mok h (by omega), ?_⟩
  rintro _ V3 S3 ⟨rfl, e3, e4⟩
  rw [e3, e4]
  refine ⟨?_, R_fr h g_fr_0 h.1.2.2 (by omega)⟩
  rw [A_wetr ha, h.1.1.2.1]
theorem R_placing (h : R t V S) (ht : t < 800) (n x w : Int32) {r : Option Value} {V1 : g_V} {S1 : g_L} (hD : S1 = S ∧ r = some (.int (if q_in n 61 ∧ q_in x 21 ∧ q_in w 2 then (if w = 0 then nI (D_lw V (D_best V (q_n x) (q_n n))) else nI (D_best V (q_n x) (q_n n))) else -2)) ∧ ∀ k, k ≠ 11 → k ≠ 12 → V1 k = V k) : ∃ a9, r = some (.int a9) ∧ (M_OK V1) ∧ ∀ (r' : Option Value) (V3 : g_V) (S3 : g_L), (S3 = S1 ∧ r' = some (.int (if q_in n 61 ∧ q_in x 21 ∧ q_in w 2 then (if w = 0 then nI (D_lw (g_cv V1) (D_best (g_cv V1) (q_n x) (q_n n))) else nI (D_best (g_cv V1) (q_n x) (q_n n))) else -2)) ∧ ∃ a b, V3 = g_up (g_up V1 201 18 a) 201 19 b) → r' = some (.int a9) ∧ R (t + 1) V3 S3 := by
  have ha := R_ag h
  have hn := ha.1.1
  have hc := ha.1.2.1
  obtain ⟨rfl, rfl, hf⟩ := hD
  have hfr : g_fr V V1 := g_fr_of fun c _ _ _ h11 h12 _ => hf c h11 h12
  have hR1 := R_fr h hfr h.1.2.2 (Nat.le_refl t)
  have hcv := g_fr_cv hfr
  have h4 := R_201 h hfr
  refine ⟨_, rfl, R_mok hR1 (by omega), ?_⟩
  rintro _ _ _ ⟨rfl, rfl, a, b, rfl⟩
  refine ⟨?_, R_fr hR1 (g_fr_2 (fun c h1 _ _ _ _ => by rw [g_up_ne h1, g_up_ne h1]) (fun k hk => by rw [g_upK (by omega), g_upK (by omega)])) hR1.1.2.2 (by omega)⟩
  rw [hcv, A_lw ha, A_best ha]
theorem R_payings (h : R t V S) (ht : t < 800)  {r : Option Value} {V1 : g_V} {S1 : g_L} (hD : S1 = S ∧ r = some (.int (nI (q_bc (q_uns (D_z V) (V 0 1))) - nI (q_gt (D_z V) (V 0 1) (V 13) (q_uns (D_z V) (V 0 1) + 1) (q_uns (D_z V) (V 0 1))))) ∧ ∀ k, k ≠ 13 → V1 k = V k) : ∃ a9, r = some (.int a9) ∧ (M_OK V1) ∧ ∀ (r' : Option Value) (V3 : g_V) (S3 : g_L), (S3 = S1 ∧ r' = some (.int (nI (q_bc (q_uns (M_z V1) (V1 201 4))) - nI (q_T (M_z V1) (V1 201 4) (q_uns (M_z V1) (V1 201 4))))) ∧ ∀ c, c ≠ 213 → V3 c = V1 c) → r' = some (.int a9) ∧ R (t + 1) V3 S3 := by
  have ha := R_ag h
  have hn := ha.1.1
  have hc := ha.1.2.1
  obtain ⟨rfl, rfl, hf⟩ := hD
  have hfr : g_fr V V1 := g_fr_of fun c _ _ _ _ _ h13 => hf c h13
  have hR1 := R_fr h hfr h.1.2.2 (Nat.le_refl t)
  have hcv := g_fr_cv hfr
  have h4 := R_201 h hfr
  refine ⟨_, rfl, R_mok hR1 (by omega), ?_⟩
  rintro _ _ _ ⟨rfl, rfl, hf2⟩
  refine ⟨?_, R_fr hR1 (g_fr_m fun c _ _ h3 => hf2 c h3) hR1.1.2.2 (by omega)⟩
  have hz : ∀ f, f < V 0 1 → M_z V1 f = D_z V f := fun f hf' => by
    rw [← A_z ha f hf', ← hcv]
    exact (cv_z (V := V1) (by omega) (by omega)).symm
  rw [h4, q_uns_z hz, q_T_of hn (q_uns (D_z V) (V 0 1)) (k := q_uns (D_z V) (V 0 1) + 1) (by have := q_uns_lt (z := D_z V) hn; omega) (Nat.lt_succ_self _)]
  unfold q_T
  rw [q_gt_z hz]
theorem R_share (h : R t V S) (ht : t < 800) (f0 x0 : Int32) (u : Nat) {r : Option Value} {V1 : g_V} {S1 : g_L} (hD : S1 = S ∧ r = some (.int (if q_in f0 (V 0 1) then (if q_in x0 21 then nI ((if u = 0 then g_ord (V 0 1) else D_sh V (q_n f0) (q_n x0)) / Nat.gcd (D_sh V (q_n f0) (q_n x0)) (g_ord (V 0 1))) else -2) else -1)) ∧ ∀ k, k ≠ 11 → k ≠ 12 → k ≠ 13 → V1 k = V k) : ∃ a9, r = some (.int a9) ∧ (M_OK V1) ∧ ∀ (r' : Option Value) (V3 : g_V) (S3 : g_L), (S3 = S1 ∧ r' = some (.int (if q_in f0 (V1 201 4) then (if q_in x0 21 then nI ((if u = 0 then g_ord (V1 201 4) else D_sh (g_cv V1) (q_n f0) (q_n x0)) / Nat.gcd (D_sh (g_cv V1) (q_n f0) (q_n x0)) (g_ord (V1 201 4))) else -2) else -1)) ∧ g_sa V1 V3) → r' = some (.int a9) ∧ R (t + 1) V3 S3 := by
  have ha := R_ag h
  have hn := ha.1.1
  have hc := ha.1.2.1
  obtain ⟨rfl, rfl, hf⟩ := hD
  have hfr : g_fr V V1 := g_fr_of fun c _ _ _ h11 h12 h13 => hf c h11 h12 h13
  have hR1 := R_fr h hfr h.1.2.2 (Nat.le_refl t)
  have hcv := g_fr_cv hfr
  have h4 := R_201 h hfr
  refine ⟨_, rfl, R_mok hR1 (by omega), ?_⟩
  rintro _ _ _ ⟨rfl, rfl, hf2⟩
  refine ⟨?_, R_fr hR1 (g_fr_2 (fun c h1 _ _ h12 _ => hf2.1 c h1 h12) (fun k hk => hf2.2 k (by omega) (by omega))) hR1.1.2.2 (by omega)⟩
  rw [hcv, h4, A_sh ha]
theorem R_rests (h : R t V S) (ht : t < 800) (f0 j0 s0 x0 w0 : Int32) {r : Option Value} {V1 : g_V} {S1 : g_L} (hD : S1 = S ∧ r = some (.int (if q_in f0 (V 0 1) ∧ q_in j0 (V 0 1) ∧ q_in s0 (V 0 1) then (if ¬ f0 = j0 ∧ q_in x0 21 ∧ q_in w0 2 then (if w0 = 0 then nI (q_rc (D_okb (g_rg V (q_n s0) (q_n x0) 7) (q_n f0) (q_n j0)) 16) else q_r1 (D_okb (g_rg V (q_n s0) (q_n x0) 7) (q_n f0) (q_n j0)) 16) else -2) else -1)) ∧ ∀ k, k ≠ 10 → V1 k = V k) : ∃ a9, r = some (.int a9) ∧ (M_OK V1) ∧ ∀ (r' : Option Value) (V3 : g_V) (S3 : g_L), (S3 = S1 ∧ r' = some (.int (if q_in f0 (V1 201 4) ∧ q_in j0 (V1 201 4) ∧ q_in s0 (V1 201 4) then (if ¬ f0 = j0 ∧ q_in x0 21 ∧ q_in w0 2 then (if w0 = 0 then nI (q_rc (D_okb (g_rg (g_cv V1) (q_n s0) (q_n x0) 7) (q_n f0) (q_n j0)) 16) else q_r1 (D_okb (g_rg (g_cv V1) (q_n s0) (q_n x0) 7) (q_n f0) (q_n j0)) 16) else -2) else -1)) ∧ (∀ c, c ≠ 201 → c ≠ 208 → V3 c = V1 c) ∧ ∀ k, k ≠ 22 → k ≠ 23 → V3 201 k = V1 201 k) → r' = some (.int a9) ∧ R (t + 1) V3 S3 := by
  have ha := R_ag h
  have hn := ha.1.1
  have hc := ha.1.2.1
  obtain ⟨rfl, rfl, hf⟩ := hD
  have hfr : g_fr V V1 := g_fr_of fun c _ _ h10 _ _ _ => hf c h10
  have hR1 := R_fr h hfr h.1.2.2 (Nat.le_refl t)
  have hcv := g_fr_cv hfr
  have h4 := R_201 h hfr
  refine ⟨_, rfl, R_mok hR1 (by omega), ?_⟩
  rintro _ _ _ ⟨rfl, rfl, hf2, hf3⟩
  refine ⟨?_, R_fr hR1 (g_fr_2 (fun c h1 _ h8 _ _ => hf2 c h1 h8) (fun k hk => hf3 k (by omega) (by omega))) hR1.1.2.2 (by omega)⟩
  rw [hcv, h4]
  by_cases q : q_in f0 (V 0 1) ∧ q_in j0 (V 0 1) ∧ q_in s0 (V 0 1)
  · have h1 := q_n_lt q.1
    have h2 := q_n_lt q.2.1
    have h3 := q_n_lt q.2.2
    rw [if_pos q, if_pos q, A_rc ha (by omega) (by omega) (by omega), A_r1 ha (by omega) (by omega) (by omega)]
  · rw [if_neg q, if_neg q]
theorem R_threes (h : R t V S) (ht : t < 800) (s0 a0 b0 t0 : Int32) (u : Nat) {r : Option Value} {V1 : g_V} {S1 : g_L} (hD : r = some (.int (if q_in s0 (V 0 1) then (if q_in a0 21 ∧ q_in b0 21 ∧ q_in t0 11 then nI ((if u = 0 then 1000 else q_sum 8 (D_thf V (q_n s0) (q_n a0) (q_n b0) (q_n t0))) / Nat.gcd (q_sum 8 (D_thf V (q_n s0) (q_n a0) (q_n b0) (q_n t0))) 1000) else -2) else -1)) ∧ V1 = V ∧ S1 = S) : ∃ a9, r = some (.int a9) ∧ (M_OK V1) ∧ ∀ (r' : Option Value) (V3 : g_V) (S3 : g_L), (S3 = S1 ∧ r' = some (.int (if q_in s0 (V1 201 4) then (if q_in a0 21 ∧ q_in b0 21 ∧ q_in t0 11 then nI ((if u = 0 then 1000 else q_sum 8 (D_thf (g_cv V1) (q_n s0) (q_n a0) (q_n b0) (q_n t0))) / Nat.gcd (q_sum 8 (D_thf (g_cv V1) (q_n s0) (q_n a0) (q_n b0) (q_n t0))) 1000) else -2) else -1)) ∧ ∀ c, c ≠ 208 → V3 c = V1 c) → r' = some (.int a9) ∧ R (t + 1) V3 S3 := by
  have ha := R_ag h
  have hn := ha.1.1
  have hc := ha.1.2.1
  obtain ⟨rfl, e1, e2⟩ := hD
  rw [e1, e2]
  refine ⟨_, rfl, R_mok h (by omega), ?_⟩
  rintro _ _ _ ⟨rfl, rfl, hf2⟩
  refine ⟨?_, R_fr h (g_fr_m fun c h8 _ _ => hf2 c h8) h.1.2.2 (by omega)⟩
  rw [h.1.1.2.1]
  by_cases q : q_in s0 (V 0 1)
  · have h3 := q_n_lt q
    rw [if_pos q, if_pos q, A_thf ha (by omega)]
  · rw [if_neg q, if_neg q]
theorem R_told (h : R t V S) (ht : t < 800) (s0 n0 : Int32) (z : Int64) (w0 : Int32) {r : Option Value} {V1 : g_V} {S1 : g_L} (hD : S1 = S ∧ (∀ c, c ≠ 8 → c ≠ 9 → V1 c = V c) ∧ ((¬ q_in s0 (V 0 1) ∧ r = some (.int (-1))) ∨ (q_in s0 (V 0 1) ∧ ¬ (q_15 n0 ∧ (0 ≤ z ∧ q_st (q_n n0) z.toInt.toNat) ∧ q_in w0 3) ∧ r = some (.int (-2))) ∨ (q_in s0 (V 0 1) ∧ (q_15 n0 ∧ (0 ≤ z ∧ q_st (q_n n0) z.toInt.toNat) ∧ q_in w0 3) ∧ ∃ h0 : Nat → Nat, (∀ i, i < 6 → h0 i = V (hB 0 + 1) i) ∧ r = some (.int (D_told V h0 (q_n s0) (q_n n0) z.toInt.toNat w0))))) : ∃ a9, r = some (.int a9) ∧ (M_OK V1) ∧ ∀ (r' : Option Value) (V3 : g_V) (S3 : g_L), (S3 = S1 ∧ (∀ c, c ≠ 208 → V3 c = V1 c) ∧ ((¬ q_in s0 (V1 201 4) ∧ r' = some (.int (-1))) ∨ (q_in s0 (V1 201 4) ∧ ¬ (q_15 n0 ∧ (0 ≤ z ∧ q_st (q_n n0) z.toInt.toNat) ∧ q_in w0 3) ∧ r' = some (.int (-2))) ∨ (q_in s0 (V1 201 4) ∧ (q_15 n0 ∧ (0 ≤ z ∧ q_st (q_n n0) z.toInt.toNat) ∧ q_in w0 3) ∧ r' = some (.int (D_told (g_cv V1) (V1 207) (q_n s0) (q_n n0) z.toInt.toNat w0))))) → r' = some (.int a9) ∧ R (t + 1) V3 S3 := by
  have ha := R_ag h
  have hn := ha.1.1
  have hc := ha.1.2.1
  obtain ⟨rfl, hf, hq⟩ := hD
  have hfr : g_fr V V1 := g_fr_of fun c h8 h9 _ _ _ _ => hf c h8 h9
  have hR1 := R_fr h hfr h.1.2.2 (Nat.le_refl t)
  have hcv := g_fr_cv hfr
  have h4 := R_201 h hfr
  have e207 : V1 207 = V 207 := hf 207 (by decide) (by decide)
  have hp := (R_pg_0 h).1
  rw [h4, hcv, e207]
  rcases hq with ⟨q1, rfl⟩ | ⟨q1, q2, rfl⟩ | ⟨q1, q2, j0, hj0, rfl⟩
  · refine ⟨_, rfl, R_mok hR1 (by omega), ?_⟩
    rintro _ _ _ ⟨rfl, hf2, hq⟩
    refine ⟨?_, R_fr hR1 (g_fr_m fun c h8 _ _ => hf2 c h8) hR1.1.2.2 (by omega)⟩
    rcases hq with ⟨_, rfl⟩ | ⟨k, _⟩ | ⟨k, _⟩
    · rfl
    · exact absurd k q1
    · exact absurd k q1
  · refine ⟨_, rfl, R_mok hR1 (by omega), ?_⟩
    rintro _ _ _ ⟨rfl, hf2, hq⟩
    refine ⟨?_, R_fr hR1 (g_fr_m fun c h8 _ _ => hf2 c h8) hR1.1.2.2 (by omega)⟩
    rcases hq with ⟨k, _⟩ | ⟨_, _, rfl⟩ | ⟨_, k, _⟩
    · exact absurd q1 k
    · rfl
    · exact absurd k q2
  · refine ⟨_, rfl, R_mok hR1 (by omega), ?_⟩
    rintro _ _ _ ⟨rfl, hf2, hq⟩
    refine ⟨?_, R_fr hR1 (g_fr_m fun c h8 _ _ => hf2 c h8) hR1.1.2.2 (by omega)⟩
    have h3 := q_n_lt q1
    rcases hq with ⟨k, _⟩ | ⟨_, k, _⟩ | ⟨_, _, rfl⟩
    · exact absurd q1 k
    · exact absurd q2 k
    · rw [A_told ha (h0 := j0) (h0' := V 207) (fun i hi => by rw [hj0 i hi]; exact (hp i hi).1) (by omega)]
theorem R_winters (h : R t V S) (ht : t < 800) (m0 : Int32) {r : Option Value} {V1 : g_V} {S1 : g_L} (hD : (∀ c, c ≠ 8 → V1 c = V c) ∧ ((¬ q_120 m0 ∧ r = some (.int (-2)) ∧ S1 = S) ∨ (q_120 m0 ∧ S1 = g_upL S 0 (q_sd (S 0) (q_n m0)) ∧ ∃ h0 : Nat → Nat, (∀ i, i < 6 → h0 i = V (hB 0 + 1) i) ∧ r = some (.int (nI (q_sum (q_n m0) (D_wl V h0 (S 0)))))))) : ∃ a9, r = some (.int a9) ∧ (M_OK V1) ∧ ∀ (r' : Option Value) (V3 : g_V) (S3 : g_L), ((∀ c, c ≠ 208 → V3 c = V1 c) ∧ ((¬ q_120 m0 ∧ r' = some (.int (-2)) ∧ S3 = S1) ∨ (q_120 m0 ∧ S3 = g_upL S1 201 (q_sd (S1 201) (q_n m0)) ∧ r' = some (.int (nI (q_sum (q_n m0) (D_wl (g_cv V1) (V1 207) (S1 201)))))))) → r' = some (.int a9) ∧ R (t + 1) V3 S3 := by
  have ha := R_ag h
  have hn := ha.1.1
  have hc := ha.1.2.1
  obtain ⟨hf, hq⟩ := hD
  have hfr : g_fr V V1 := g_fr_of fun c h8 _ _ _ _ _ => hf c h8
  have hcv := g_fr_cv hfr
  have hp := (R_pg_0 h).1
  have hS := h.1.2.2
  have e207 : V1 207 = V 207 := hf 207 (by decide)
  have hM : M_OK V1 := M_OK_of (R_mok h (by omega)) (hf 201 (by decide)) (hf 203 (by decide)) (hf 204 (by decide)) (hf 205 (by decide)) e207
  rw [hcv, e207]
  rcases hq with ⟨q1, rfl, rfl⟩ | ⟨q1, rfl, j0, hj0, rfl⟩
  · refine ⟨_, rfl, hM, ?_⟩
    rintro _ _ _ ⟨hf2, hq⟩
    rcases hq with ⟨_, rfl, rfl⟩ | ⟨k, _⟩
    · exact ⟨rfl, R_fr (R_fr h hfr hS (Nat.le_refl t)) (g_fr_m fun c h8 _ _ => hf2 c h8) hS (by omega)⟩
    · exact absurd k q1
  · refine ⟨_, rfl, hM, ?_⟩
    rintro _ _ _ ⟨hf2, hq⟩
    have e201 : g_upL S 0 (q_sd (S 0) (q_n m0)) 201 = S 0 := by rw [g_upL_ne (by decide)]; exact hS
    rcases hq with ⟨k, _⟩ | ⟨_, rfl, rfl⟩
    · exact absurd q1 k
    · refine ⟨?_, R_fr (R_fr (S' := S) h hfr hS (Nat.le_refl t)) (g_fr_m fun c h8 _ _ => hf2 c h8) ?_ (by omega)⟩
      · rw [e201, A_wl ha (h0 := j0) (h0' := V 207) (fun i hi => by rw [hj0 i hi]; exact (hp i hi).1)]
      · rw [e201, g_upL_self, g_upL_ne (by decide), g_upL_self]
theorem R_seed (h : R t V S) (ht : t < 800) (v : Int64) {r : Option Value} {V1 : g_V} {S1 : g_L} (hD : r = some (.long (S 0)) ∧ V1 = V ∧ S1 = g_upL S 0 v) : ∃ a9, r = some (.long a9) ∧ (M_OK V1) ∧ ∀ (r' : Option Value) (V3 : g_V) (S3 : g_L), (r' = some (.long (S1 201)) ∧ V3 = V1 ∧ S3 = g_upL S1 201 v) → r' = some (.long a9) ∧ R (t + 1) V3 S3 := by
  have ha := R_ag h
  have hn := ha.1.1
  have hc := ha.1.2.1
  obtain ⟨rfl, e1, e2⟩ := hD
  rw [e1, e2]
  refine ⟨_, rfl, R_mok h (by omega), ?_⟩
  rintro _ V3 S3 ⟨rfl, e3, e4⟩
  rw [e3, e4]
  refine ⟨?_, R_fr h g_fr_0 ?_ (by omega)⟩
  · rw [g_upL_ne (by decide), h.1.2.2]
  · rw [g_upL_self, g_upL_ne (by decide), g_upL_self]
theorem R_fault (h : R t V S) (ht : t < 800)  {r : Option Value} {V1 : g_V} {S1 : g_L} (hD : r = some (.int (q_an (q_fault (V 1 1) (V 2)).1)) ∧ V1 = V ∧ S1 = S) : ∃ a9, r = some (.int a9) ∧ (M_OK V1 ∧ M_T V1) ∧ ∀ (r' : Option Value) (V3 : g_V) (S3 : g_L), (S3 = S1 ∧ r' = some (.int (q_an (q_fault (V1 201 2) (V1 202)).1)) ∧ ∃ p f d rf, g_rw V1 V3 p f d rf ∧ ((q_fault (V1 201 2) (V1 202)).1 = none → (q_fault (V1 201 2) (V1 202)).2 = (f, d, rf) ∧ f ≤ 6 ∧ d < 64)) → r' = some (.int a9) ∧ R (t + 1) V3 S3 := by
  have ha := R_ag h
  have hn := ha.1.1
  have hc := ha.1.2.1
  obtain ⟨rfl, e1, e2⟩ := hD
  rw [e1, e2]
  refine ⟨_, rfl, ⟨R_mok h (by omega), R_mT h⟩, ?_⟩
  rintro _ _ _ ⟨rfl, rfl, p, f, d, rf, hw, _⟩
  refine ⟨?_, R_fr h (g_fr_2 (fun c h1 h6 _ _ _ => hw.1 c h1 h6) (fun k hk => hw.2.1 k (by omega) (by omega) (by omega))) h.1.2.2 (by omega)⟩
  rw [h.1.1.2.2.1, h.2.1.1]
end REQ
