/-! The two side by side: the relation. -/
def R_pg (V : g_V) (j c o : Nat) : Prop :=
  (∀ k, k < 6 → V c (o + k) = V (hB j + 1) k ∧ V c (o + (6 + k)) = V (hB j + 2) k ∧ V c (o + (12 + k)) = V (hB j + 3) k) ∧
  (V c (o + 18) = V (hB j) 4 ∧ V c (o + 19) = V (hB j) 5 ∧ V c (o + 20) = V (hB j) 6) ∧
  ∀ a b, a < 6 → b < 6 → V c (o + (21 + 6 * a + b)) = V (hB j + (5 + a)) b
def R_bd (t : Nat) (V : g_V) (j : Nat) : Prop :=
  (∀ i, i < 6 → V (hB j + 1) i ≤ 15 ∧ V (hB j + 2) i ≤ 9 + t) ∧ V (hB j) 4 < 64 ∧ V (hB j) 5 < 64 ∧ V (hB j) 6 ≤ t
def R (t : Nat) (V : g_V) (S : g_L) : Prop :=
  ((V 201 0 = 0 ∧ V 201 4 = V 0 1 ∧ V 201 2 = V 1 1 ∧ V 201 14 = V 0 8) ∧ (V 0 1 ≤ 6 ∧ V 1 1 ≤ 48 ∧ V 0 8 ≤ 14 ∧ V 0 7 < 14 ∧ V 0 10 < 4) ∧ S 201 = S 0) ∧
  (V 202 = V 2 ∧ ∀ i, i < 48 → V 2 i ≤ 255) ∧
  ((∀ i, i < 6 → V 203 i = V 3 i ∧ V 204 i = V 4 i ∧ V 205 i = V 5 i) ∧ g_K V) ∧
  (R_pg V 0 207 0 ∧ ∀ a, a < V 0 8 → R_pg V (1 + (V 0 7 + a) % 14) 209 (57 * a)) ∧
  (∀ k, k < 2 → V 211 k ≤ 1 ∧ (V 211 k = 0 ↔ ¬ (V 0 10).testBit k = true) ∧ ((V 0 10).testBit k = true → R_pg V (15 + k) 210 (57 * k))) ∧
  ∀ j, j < 17 → R_bd t V j
section REL
variable {t : Nat} {V W : g_V} {S S' : g_L}
theorem R_ok (h : R t V S) (ht : t ≤ 800) : g_OK V := by
  obtain ⟨⟨⟨a1, a2, a3, a4⟩, ⟨b1, b2, b3, b4, b5⟩, _⟩, ⟨c1, c2⟩, ⟨d1, d2⟩, _, _, e⟩ := h
  refine ⟨⟨b1, d2, b2, c2⟩, ⟨b4, b3, b5⟩, fun j hj => ?_⟩
  obtain ⟨e1, e2, e3, e4⟩ := e j hj
  exact ⟨fun i hi => (e1 i hi).1, fun i hi => by have := (e1 i hi).2; omega, e2, e3, by omega⟩
theorem R_pg_0 (h : R t V S) : (∀ k, k < 6 → V 207 k = V (hB 0 + 1) k ∧ V 207 (6 + k) = V (hB 0 + 2) k ∧ V 207 (12 + k) = V (hB 0 + 3) k) ∧ (V 207 18 = V (hB 0) 4 ∧ V 207 19 = V (hB 0) 5 ∧ V 207 20 = V (hB 0) 6) ∧ ∀ a b, a < 6 → b < 6 → V 207 (21 + 6 * a + b) = V (hB 0 + (5 + a)) b := by
  obtain ⟨h1, h2, h3⟩ := h.2.2.2.1.1
  exact ⟨fun k hk => by have := h1 k hk; rw [Nat.zero_add, Nat.zero_add, Nat.zero_add] at this; exact this, h2, fun a b ha hb => by have := h3 a b ha hb; rw [Nat.zero_add] at this; exact this⟩
theorem R_mok (h : R t V S) (ht : t ≤ 800) : M_OK V := by
  obtain ⟨p1, ⟨p2, p3, p4⟩, p5⟩ := R_pg_0 h
  obtain ⟨⟨⟨a1, a2, a3, a4⟩, ⟨b1, b2, b3, b4, b5⟩, _⟩, ⟨c1, c2⟩, ⟨d1, d2⟩, _, _, e⟩ := h
  obtain ⟨e1, e2, e3, e4⟩ := e 0 (by decide)
  refine ⟨⟨a1, by omega, fun i hi => ?_, by omega, by omega⟩, fun i hi => ?_, fun i hi => ?_, by omega, by omega, by omega⟩
  · obtain ⟨q1, q2, q3⟩ := d1 i hi
    rw [q1, q2, q3]; exact d2 i hi
  · rw [(p1 i hi).1]; exact (e1 i hi).1
  · rw [(p1 i hi).2.1]; have := (e1 i hi).2; omega
theorem R_mT (h : R t V S) : M_T V := by
  unfold M_T
  rw [h.2.1.1, h.1.1.2.2.1]
  exact ⟨h.1.2.1.2.1, h.2.1.2⟩
theorem R_ag (h : R t V S) : g_ag V (g_cv V) := by
  obtain ⟨p1, ⟨p2, p3, p4⟩, p5⟩ := R_pg_0 h
  obtain ⟨⟨⟨a1, a2, a3, a4⟩, ⟨b1, b2, b3, b4, b5⟩, _⟩, ⟨c1, c2⟩, ⟨d1, d2⟩, _, _, e⟩ := h
  refine ⟨⟨b1, a2, a4, a3⟩, fun i hi => ⟨d1 i hi, p1 i hi⟩, ⟨p2, p3, p4⟩, fun a b ha hb => ?_⟩
  rw [cv_ow ha]
  exact p5 a b ha hb
theorem M_OK_of (h : M_OK V) (e1 : W 201 = V 201) (e3 : W 203 = V 203) (e4 : W 204 = V 204) (e5 : W 205 = V 205) (e7 : W 207 = V 207) : M_OK W := by
  unfold M_OK M_K g_H
  rw [e1, e3, e4, e5, e7]
  exact h
/-- nothing changed that lasts -/
def g_fr (V W : g_V) : Prop := (∀ c, ((c < 8 ∨ 14 ≤ c) ∧ c ≠ 201 ∧ c ≠ 206 ∧ c ≠ 208 ∧ c ≠ 212 ∧ c ≠ 213) → W c = V c) ∧ (W 201 0 = V 201 0 ∧ W 201 2 = V 201 2 ∧ W 201 4 = V 201 4 ∧ W 201 14 = V 201 14)
theorem g_fr_0 : g_fr V V := ⟨fun _ _ => rfl, rfl, rfl, rfl, rfl⟩
theorem g_fr_cv (h : g_fr V W) : g_cv W = g_cv V := g_cv_eq h.2.2.2.1 h.2.2.2.2 h.2.2.1 (h.1 202 (by decide)) (h.1 203 (by decide)) (h.1 204 (by decide)) (h.1 205 (by decide)) (h.1 207 (by decide))
theorem R_bd_of {t' j' : Nat} {j : Nat} (hj : g_hq W j' V j) (h : R_bd t V j) (ht : t ≤ t') : R_bd t' W j' := by
  obtain ⟨e1, e2, e3, e4⟩ := h
  obtain ⟨h1, h2, h3, h4⟩ := hj
  refine ⟨fun i hi => ?_, by omega, by omega, by omega⟩
  rw [h1 1 i (by decide) (by decide) (by decide) hi, h1 2 i (by decide) (by decide) (by decide) hi]
  have := e1 i hi
  omega
theorem R_pg_of {j' j c c' o o' : Nat} (hj : g_hq W j' V j) (hc : ∀ k, k < 57 → W c' (o' + k) = V c (o + k)) (h : R_pg V j c o) : R_pg W j' c' o' := by
  obtain ⟨h1, h2, h3, h4⟩ := hj
  obtain ⟨p1, ⟨p2, p3, p4⟩, p5⟩ := h
  refine ⟨fun k hk => ⟨?_, ?_, ?_⟩, ⟨?_, ?_, ?_⟩, fun a b ha hb => ?_⟩
  · rw [hc k (by omega), h1 1 k (by decide) (by decide) (by decide) hk]; exact (p1 k hk).1
  · rw [hc (6 + k) (by omega), h1 2 k (by decide) (by decide) (by decide) hk]; exact (p1 k hk).2.1
  · rw [hc (12 + k) (by omega), h1 3 k (by decide) (by decide) (by decide) hk]; exact (p1 k hk).2.2
  · rw [hc 18 (by decide), h2]; exact p2
  · rw [hc 19 (by decide), h3]; exact p3
  · rw [hc 20 (by decide), h4]; exact p4
  · rw [hc (21 + 6 * a + b) (by omega), h1 (5 + a) b (by omega) (by omega) (by omega) hb]; exact p5 a b ha hb
theorem g_hq_of {j : Nat} (h : ∀ r, r < 11 → W (hB j + r) = V (hB j + r)) : g_hq W j V j :=
  ⟨fun r k _ h2 _ _ => by rw [h r h2], by have := h 0 (by decide); rw [Nat.add_zero] at this; rw [this], by have := h 0 (by decide); rw [Nat.add_zero] at this; rw [this], by have := h 0 (by decide); rw [Nat.add_zero] at this; rw [this]⟩
theorem R_fr {t' : Nat} (h : R t V S) (hf : g_fr V W) (hS : S' 201 = S' 0) (ht : t ≤ t') : R t' W S' := by
  obtain ⟨f, f0, f2, f4, f14⟩ := hf
  have hj : ∀ j, j < 17 → g_hq W j V j := fun j hj => g_hq_of fun r hr => f _ (by unfold hB; omega)
  obtain ⟨⟨⟨a1, a2, a3, a4⟩, ⟨b1, b2, b3, b4, b5⟩, _⟩, ⟨c1, c2⟩, ⟨d1, d2⟩, ⟨k1, k2⟩, k3, e⟩ := h
  have e0 : W 0 = V 0 := f 0 (by decide)
  have e1 : W 1 = V 1 := f 1 (by decide)
  have e2 : W 2 = V 2 := f 2 (by decide)
  have e3 : W 3 = V 3 := f 3 (by decide)
  have e4 : W 4 = V 4 := f 4 (by decide)
  have e5 : W 5 = V 5 := f 5 (by decide)
  have e202 : W 202 = V 202 := f 202 (by decide)
  have e203 : W 203 = V 203 := f 203 (by decide)
  have e204 : W 204 = V 204 := f 204 (by decide)
  have e205 : W 205 = V 205 := f 205 (by decide)
  have e207 : W 207 = V 207 := f 207 (by decide)
  have e209 : W 209 = V 209 := f 209 (by decide)
  have e210 : W 210 = V 210 := f 210 (by decide)
  have e211 : W 211 = V 211 := f 211 (by decide)
  refine ⟨⟨⟨by rw [f0]; exact a1, by rw [f4, e0]; exact a2, by rw [f2, e1]; exact a3, by rw [f14, e0]; exact a4⟩, ⟨by rw [e0]; exact b1, by rw [e1]; exact b2, by rw [e0]; exact b3, by rw [e0]; exact b4, by rw [e0]; exact b5⟩, hS⟩, ⟨by rw [e202, e2]; exact c1, by rw [e2]; exact c2⟩, ⟨by rw [e203, e204, e205, e3, e4, e5]; exact d1, by unfold g_K; rw [e3, e4, e5]; exact d2⟩, ⟨?_, fun a ha => ?_⟩, fun k hk => ?_, fun j hj' => ?_⟩
  · exact R_pg_of (hj 0 (by decide)) (fun k _ => by rw [e207]) k1
  · rw [e0] at ha ⊢
    exact R_pg_of (hj _ (by have := Nat.mod_lt (V 0 7 + a) (show 0 < 14 by decide); omega)) (fun k _ => by rw [e209]) (k2 a ha)
  · obtain ⟨q1, q2, q3⟩ := k3 k hk
    rw [e0, e211]
    exact ⟨q1, q2, fun q => R_pg_of (hj _ (by omega)) (fun k _ => by rw [e210]) (q3 q)⟩
  · exact R_bd_of (hj j hj') (e j hj') ht
end REL
