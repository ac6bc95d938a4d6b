/-! The two side by side: acts. -/
theorem g_hq_tr {A B C : g_V} {i j k : Nat} (h : g_hq A i B j) (h2 : g_hq B j C k) : g_hq A i C k :=
  ⟨fun r q a b c d => (h.1 r q a b c d).trans (h2.1 r q a b c d), h.2.1.trans h2.2.1, h.2.2.1.trans h2.2.2.1, h.2.2.2.trans h2.2.2.2⟩
theorem g_n1_14 {V : g_V} : g_n1 V 201 14 = V 201 14 - 1 := g_upS
theorem g_n2_14 {V : g_V} : g_n2 V 201 14 = V 201 14 + 1 := g_upS
theorem g_n2_new {V : g_V} {k : Nat} (hk : k < 57) : g_n2 V 209 (57 * V 201 14 + k) = V 207 k := by
  unfold g_n2; rw [g_up_ne (by decide), g_pra_S hk]
theorem g_n2_old {V : g_V} {a k : Nat} (hk : k < 57) (ha : a < V 201 14) : g_n2 V 209 (57 * a + k) = V 209 (57 * a + k) := by
  unfold g_n2; rw [g_up_ne (by decide), g_pra_T (by omega)]
theorem g_n1_old {V : g_V} {a k : Nat} (hk : k < 57) (ha : a < 13) : g_n1 V 209 (57 * a + k) = V 209 (57 * (a + 1) + k) := by
  unfold g_n1
  rw [g_up_ne (by decide), g_pra_S0 (f := fun k => V 209 (k + 57)) (by omega)]
  show V 209 _ = V 209 _
  congr 1
  omega
section REA
variable {t : Nat} {V V1 V2 V3 : g_V} {S : g_L}
/-- the reference's book behind a note -/
theorem g_nt_bk (h14 : V 201 14 ≤ 14) : g_nt V 201 14 = (if V 201 14 = 14 then 13 else V 201 14) + 1 ∧
    (∀ k, k < 57 → g_nt V 209 (57 * (if V 201 14 = 14 then 13 else V 201 14) + k) = V 207 k) ∧
    ∀ a k, k < 57 → a < (if V 201 14 = 14 then 13 else V 201 14) → g_nt V 209 (57 * a + k) = V 209 (57 * (if V 201 14 = 14 then a + 1 else a) + k) := by
  unfold g_nt
  by_cases e : V 201 14 = 14
  · rw [if_pos e, if_pos e]
    have e1 : g_n1 V 201 14 = 13 := by rw [g_n1_14, e]
    have e2 : g_n1 V 207 = V 207 := g_n1_c (by decide) (by decide)
    refine ⟨by rw [g_n2_14, e1], fun k hk => ?_, fun a k hk ha => ?_⟩
    · have := g_n2_new (V := g_n1 V) hk
      rw [e1, e2] at this; exact this
    · rw [if_pos e, g_n2_old hk (by rw [e1]; exact ha), g_n1_old hk ha]
  · rw [if_neg e, if_neg e]
    refine ⟨g_n2_14, fun k hk => g_n2_new hk, fun a k hk ha => ?_⟩
    rw [if_neg e, g_n2_old hk ha]
theorem R_act (h : R t V S) (hr : g_rem V V2) (h1 : ∀ c, (c < 14 ∨ 25 ≤ c) → V1 c = V2 c) (h3 : ∀ c, c ≠ 207 → V3 c = g_nt V1 c) (hp : R_pg V3 0 207 0) (hb : R_bd (t + 1) V3 0) : R (t + 1) V3 S := by
  obtain ⟨⟨⟨a1, a2, a3, a4⟩, ⟨b1, b2, b3, b4, b5⟩, b6⟩, ⟨c1, c2⟩, ⟨d1, d2⟩, ⟨k1, k2⟩, k3, e⟩ := h
  obtain ⟨⟨r1, r2, r3⟩, r4, r5⟩ := hr
  have hP : g_remP V < 14 := Nat.mod_lt _ (by decide)
  have lo : ∀ c, c ≠ 0 → c < 14 → V3 c = V c := fun c q q2 => by
    rw [h3 c (by omega), g_nt_c (by omega) (by omega), h1 c (Or.inl q2), r5 c q (Or.inl (by unfold hB; omega))]
  have hi : ∀ c, 201 ≤ c → V1 c = V c := fun c q => by
    rw [h1 c (Or.inr (by omega)), r5 c (by omega) (Or.inr (by unfold hB; omega))]
  have hi3 : ∀ c, 201 ≤ c → c ≠ 201 → c ≠ 207 → c ≠ 209 → V3 c = V c := fun c q q1 q7 q9 => by
    rw [h3 c q7, g_nt_c q1 q9, hi c q]
  have z0 : V3 0 = V2 0 := by rw [h3 0 (by decide), g_nt_c (by decide) (by decide), h1 0 (Or.inl (by decide))]
  have k201 : ∀ k, k ≠ 14 → V3 201 k = V 201 k := fun k q => by rw [h3 201 (by decide), g_nt_k q, hi 201 (by decide)]
  have hq3 : ∀ j, 1 ≤ j → j < 17 → g_hq V3 j V2 j := fun j q1 q2 => g_hq_of fun r hr => by
    rw [h3 _ (by unfold hB; omega), g_nt_c (by unfold hB; omega) (by unfold hB; omega), h1 _ (Or.inr (by unfold hB; omega))]
  have hqo : ∀ j, 1 ≤ j → j < 17 → j ≠ 1 + g_remP V → g_hq V3 j V j := fun j q1 q2 q3 => g_hq_tr (hq3 j q1 q2) (g_hq_of fun r hr => by
    rw [r5 _ (by unfold hB; omega) (by unfold hB; omega)])
  have hqn : g_hq V3 (1 + g_remP V) V 0 := g_hq_tr (hq3 _ (by omega) (by omega)) r4
  have e14 : V1 201 14 = V 0 8 := by rw [hi 201 (by decide)]; exact a4
  have e207 : V1 207 = V 207 := hi 207 (by decide)
  have e209 : V1 209 = V 209 := hi 209 (by decide)
  obtain ⟨n1, n2, n3⟩ := g_nt_bk (V := V1) (by rw [e14]; exact b3)
  rw [e14] at n1
  rw [e14, e207] at n2
  rw [e14, e209] at n3
  have eA : (if V 0 8 = 14 then 13 else V 0 8) = g_remA V := rfl
  rw [eA] at n1 n2 n3
  have v209 : V3 209 = g_nt V1 209 := h3 209 (by decide)
  have v14 : V3 201 14 = g_remA V + 1 := by rw [h3 201 (by decide)]; exact n1
  have w1 : V3 0 1 = V 0 1 := by rw [z0]; exact r3 1 (by decide) (by decide)
  have w10 : V3 0 10 = V 0 10 := by rw [z0]; exact r3 10 (by decide) (by decide)
  have w8 : V3 0 8 = g_remA V + 1 := by rw [z0]; exact r2
  have w7 : V3 0 7 = g_remF V := by rw [z0]; exact r1
  have hA13 : g_remA V ≤ 13 := by unfold g_remA; split <;> omega
  have hF14 : g_remF V < 14 := by unfold g_remF; split <;> omega
  refine ⟨⟨⟨by rw [k201 0 (by decide)]; exact a1, by rw [k201 4 (by decide), w1]; exact a2, by rw [k201 2 (by decide), lo 1 (by decide) (by decide)]; exact a3, by rw [v14, w8]⟩, ⟨by rw [w1]; exact b1, by rw [lo 1 (by decide) (by decide)]; exact b2, by omega, by omega, by rw [w10]; exact b5⟩, b6⟩, ⟨by rw [hi3 202 (by decide) (by decide) (by decide) (by decide), lo 2 (by decide) (by decide)]; exact c1, by rw [lo 2 (by decide) (by decide)]; exact c2⟩, ⟨by rw [hi3 203 (by decide) (by decide) (by decide) (by decide), hi3 204 (by decide) (by decide) (by decide) (by decide), hi3 205 (by decide) (by decide) (by decide) (by decide), lo 3 (by decide) (by decide), lo 4 (by decide) (by decide), lo 5 (by decide) (by decide)]; exact d1, by unfold g_K; rw [lo 3 (by decide) (by decide), lo 4 (by decide) (by decide), lo 5 (by decide) (by decide)]; exact d2⟩, ⟨hp, fun a ha => ?_⟩, fun k hk => ?_, fun j hj => ?_⟩
  · rw [w8] at ha
    rw [w7]
    by_cases ea : a = g_remA V
    · subst ea
      exact R_pg_of hqn (fun k hk => by rw [v209, n2 k hk, Nat.zero_add]) k1
    · have hal : a < g_remA V := by omega
      have hne : 1 + (g_remF V + a) % 14 ≠ 1 + g_remP V := by
        unfold g_remP; omega
      have hm := Nat.mod_lt (g_remF V + a) (show 0 < 14 by decide)
      have hq := hqo (1 + (g_remF V + a) % 14) (by omega) (by omega) hne
      by_cases e8 : V 0 8 = 14
      · have hF : (g_remF V + a) % 14 = (V 0 7 + (a + 1)) % 14 := by unfold g_remF; rw [if_pos e8]; omega
        have hA : g_remA V = 13 := by unfold g_remA; rw [if_pos e8]
        rw [hF] at hq ⊢
        exact R_pg_of hq (fun k hk => by rw [v209, n3 a k hk hal, if_pos e8]) (k2 (a + 1) (by omega))
      · have hF : g_remF V = V 0 7 := by unfold g_remF; rw [if_neg e8]
        have hA : g_remA V = V 0 8 := by unfold g_remA; rw [if_neg e8]
        rw [hF] at hq ⊢
        exact R_pg_of hq (fun k hk => by rw [v209, n3 a k hk hal, if_neg e8]) (k2 a (by omega))
  · obtain ⟨q1, q2, q3⟩ := k3 k hk
    rw [w10, hi3 211 (by decide) (by decide) (by decide) (by decide)]
    exact ⟨q1, q2, fun q => R_pg_of (hqo (15 + k) (by omega) (by omega) (by omega)) (fun i _ => by rw [hi3 210 (by decide) (by decide) (by decide) (by decide)]) (q3 q)⟩
  · by_cases e0 : j = 0
    · subst e0; exact hb
    · by_cases eP : j = 1 + g_remP V
      · subst eP; exact R_bd_of hqn (e 0 (by decide)) (by omega)
      · exact R_bd_of (hqo j (by omega) hj eP) (e j hj) (by omega)
end REA
