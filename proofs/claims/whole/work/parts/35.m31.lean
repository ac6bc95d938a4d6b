/-! The reference: the dyke. -/
/-- what the reference's dyke leaves -/
def M_dy (V W : g_V) (f d : Nat) (rf : Nat → Nat) : Prop :=
  (W 201 4 = f ∧ f ≤ 6 ∧ W 207 19 = d ∧ d < 64) ∧
  (∀ i, i < f → (W 207 i = rf (5 * i) ∧ W 203 i = rf (5 * i + 1) ∧ W 207 (6 + i) = rf (5 * i + 2)) ∧ (W 204 i = rf (5 * i + 3) ∧ W 205 i = rf (5 * i + 4) ∧ W 207 (12 + i) = i)) ∧
  (∀ i, f ≤ i → i < 6 → (W 207 i = 0 ∧ W 207 (6 + i) = 0 ∧ W 207 (12 + i) = 0) ∧ (W 203 i = V 203 i ∧ W 204 i = V 204 i ∧ W 205 i = V 205 i)) ∧
  (W 207 18 = 0 ∧ W 207 20 = 0 ∧ ∀ k, 21 ≤ k → k < 57 → W 207 k = 0) ∧
  (W 201 14 = 0 ∧ W 211 0 = 0 ∧ W 211 1 = 0) ∧
  (∀ k, k ≠ 3 → k ≠ 4 → k ≠ 8 → k ≠ 9 → k ≠ 14 → W 201 k = V 201 k) ∧
  ∀ c, c ≠ 201 → c ≠ 203 → c ≠ 204 → c ≠ 205 → c ≠ 206 → c ≠ 207 → c ≠ 211 → W c = V c
/-- i farms set -/
def M_dl (V W : g_V) (f d : Nat) (rf : Nat → Nat) (i : Nat) : Prop :=
  (W 201 4 = f ∧ W 201 9 = d ∧ ∀ j, j < 5 * f → W 206 j = rf j) ∧
  (∀ j, j < i → (W 207 j = rf (5 * j) ∧ W 203 j = rf (5 * j + 1) ∧ W 207 (6 + j) = rf (5 * j + 2)) ∧ (W 204 j = rf (5 * j + 3) ∧ W 205 j = rf (5 * j + 4) ∧ W 207 (12 + j) = j)) ∧
  (∀ j, i ≤ j → j < 6 → (W 207 j = 0 ∧ W 207 (6 + j) = 0 ∧ W 207 (12 + j) = 0) ∧ (W 203 j = V 203 j ∧ W 204 j = V 204 j ∧ W 205 j = V 205 j)) ∧
  (∀ k, 18 ≤ k → k < 57 → W 207 k = 0) ∧
  (∀ k, k ≠ 3 → k ≠ 4 → k ≠ 8 → k ≠ 9 → W 201 k = V 201 k) ∧
  ∀ c, c ≠ 201 → c ≠ 203 → c ≠ 204 → c ≠ 205 → c ≠ 206 → c ≠ 207 → W c = V c
def M_st (W : g_V) (i : Nat) : g_V := g_up (g_up (g_up (g_up (g_up (g_up W 207 i (W 206 (5 * i))) 203 i (W 206 (5 * i + 1))) 207 (6 + i) (W 206 (5 * i + 2))) 204 i (W 206 (5 * i + 3))) 205 i (W 206 (5 * i + 4))) 207 (12 + i) i
theorem M_dl_step {V W : g_V} {f d i : Nat} {rf : Nat → Nat} (h : M_dl V W f d rf i) (hi : i < f) (hf : f ≤ 6) : M_dl V (M_st W i) f d rf (i + 1) := by
  obtain ⟨⟨a1, a2, a3⟩, b, c, e, g, k⟩ := h
  unfold M_st
  refine ⟨⟨?_, ?_, fun j hj => ?_⟩, fun j hj => ?_, fun j hj hj6 => ?_, fun q h1 h2 => ?_, fun q h1 h2 h3 h4 => ?_, fun q h1 h2 h3 h4 h5 h6 => ?_⟩
  · repeat (first | rw [g_upS] | rw [g_upN (by decide)] | rw [g_upK (by omega)])
    exact a1
  · repeat (first | rw [g_upS] | rw [g_upN (by decide)] | rw [g_upK (by omega)])
    exact a2
  · repeat (first | rw [g_upS] | rw [g_upN (by decide)] | rw [g_upK (by omega)])
    exact a3 j hj
  · by_cases ej : j = i
    · subst ej
      refine ⟨⟨?_, ?_, ?_⟩, ?_, ?_, ?_⟩
      · repeat (first | rw [g_upS] | rw [g_upN (by decide)] | rw [g_upK (by omega)])
        exact a3 _ (by omega)
      · repeat (first | rw [g_upS] | rw [g_upN (by decide)] | rw [g_upK (by omega)])
        exact a3 _ (by omega)
      · repeat (first | rw [g_upS] | rw [g_upN (by decide)] | rw [g_upK (by omega)])
        exact a3 _ (by omega)
      · repeat (first | rw [g_upS] | rw [g_upN (by decide)] | rw [g_upK (by omega)])
        exact a3 _ (by omega)
      · repeat (first | rw [g_upS] | rw [g_upN (by decide)] | rw [g_upK (by omega)])
        exact a3 _ (by omega)
      · repeat (first | rw [g_upS] | rw [g_upN (by decide)] | rw [g_upK (by omega)])
    · obtain ⟨⟨b1, b2, b3⟩, b4, b5, b6⟩ := b j (by omega)
      refine ⟨⟨?_, ?_, ?_⟩, ?_, ?_, ?_⟩
      · repeat (first | rw [g_upS] | rw [g_upN (by decide)] | rw [g_upK (by omega)])
        exact b1
      · repeat (first | rw [g_upS] | rw [g_upN (by decide)] | rw [g_upK (by omega)])
        exact b2
      · repeat (first | rw [g_upS] | rw [g_upN (by decide)] | rw [g_upK (by omega)])
        exact b3
      · repeat (first | rw [g_upS] | rw [g_upN (by decide)] | rw [g_upK (by omega)])
        exact b4
      · repeat (first | rw [g_upS] | rw [g_upN (by decide)] | rw [g_upK (by omega)])
        exact b5
      · repeat (first | rw [g_upS] | rw [g_upN (by decide)] | rw [g_upK (by omega)])
        exact b6
  · obtain ⟨⟨b1, b2, b3⟩, b4, b5, b6⟩ := c j (by omega) hj6
    refine ⟨⟨?_, ?_, ?_⟩, ?_, ?_, ?_⟩
    · repeat (first | rw [g_upS] | rw [g_upN (by decide)] | rw [g_upK (by omega)])
      exact b1
    · repeat (first | rw [g_upS] | rw [g_upN (by decide)] | rw [g_upK (by omega)])
      exact b2
    · repeat (first | rw [g_upS] | rw [g_upN (by decide)] | rw [g_upK (by omega)])
      exact b3
    · repeat (first | rw [g_upS] | rw [g_upN (by decide)] | rw [g_upK (by omega)])
      exact b4
    · repeat (first | rw [g_upS] | rw [g_upN (by decide)] | rw [g_upK (by omega)])
      exact b5
    · repeat (first | rw [g_upS] | rw [g_upN (by decide)] | rw [g_upK (by omega)])
      exact b6
  · repeat (first | rw [g_upS] | rw [g_upN (by decide)] | rw [g_upK (by omega)])
    exact e q h1 h2
  · repeat (first | rw [g_upS] | rw [g_upN (by decide)] | rw [g_upK (by omega)])
    exact g q h1 h2 h3 h4
  · rw [g_up_ne h6, g_up_ne h4, g_up_ne h3, g_up_ne h6, g_up_ne h2, g_up_ne h6]
    exact k q h1 h2 h3 h4 h5 h6
theorem M_dl_0 {V W : g_V} {p f d : Nat} {rf : Nat → Nat} (h : g_rw V W p f d rf) : M_dl V (g_pra (g_up W 201 4 f) 207 (fun _ => 0) 0 57) f d rf 0 := by
  obtain ⟨h1, h2, ⟨h3, h4, h5⟩, h6⟩ := h
  refine ⟨⟨by rw [g_pra_N (by decide), g_upS], by rw [g_pra_N (by decide), g_upK (by decide)]; exact h5, fun j hj => by rw [g_pra_N (by decide), g_upN (by decide)]; exact h6 j hj⟩, fun j hj => absurd hj (Nat.not_lt_zero j), fun j _ hj6 => ⟨⟨?_, ?_, ?_⟩, ?_, ?_, ?_⟩, fun q a b => ?_, fun q a b c d => ?_, fun q a b c d e g => ?_⟩
  · exact g_pra_S0 (by omega)
  · exact g_pra_S0 (by omega)
  · exact g_pra_S0 (by omega)
  · rw [g_pra_N (by decide), g_upN (by decide), h1 203 (by decide) (by decide)]
  · rw [g_pra_N (by decide), g_upN (by decide), h1 204 (by decide) (by decide)]
  · rw [g_pra_N (by decide), g_upN (by decide), h1 205 (by decide) (by decide)]
  · exact g_pra_S0 (by omega)
  · rw [g_pra_N (by decide), g_upK b]; exact h2 q a c d
  · rw [g_pra_N g, g_up_ne a]; exact h1 q a e
theorem M_dl_end {V W : g_V} {f d : Nat} {rf : Nat → Nat} (h : M_dl V W f d rf f) (hf : f ≤ 6) (hd : d < 64) : M_dy V (g_up (g_up (g_up (g_up W 207 19 d) 201 14 0) 211 0 0) 211 1 0) f d rf := by
  obtain ⟨⟨a1, a2, a3⟩, b, c, e, g, k⟩ := h
  refine ⟨⟨?_, hf, ?_, hd⟩, fun j hj => ?_, fun j hj hj6 => ?_, ⟨?_, ?_, fun q h1 h2 => ?_⟩, ⟨?_, ?_, ?_⟩, fun q h1 h2 h3 h4 h5 => ?_, fun q h1 h2 h3 h4 h5 h6 h7 => ?_⟩
  · repeat (first | rw [g_upS] | rw [g_upN (by decide)] | rw [g_upK (by omega)])
    exact a1
  · repeat (first | rw [g_upS] | rw [g_upN (by decide)] | rw [g_upK (by omega)])
  · obtain ⟨⟨b1, b2, b3⟩, b4, b5, b6⟩ := b j (by omega)
    refine ⟨⟨?_, ?_, ?_⟩, ?_, ?_, ?_⟩
    · repeat (first | rw [g_upS] | rw [g_upN (by decide)] | rw [g_upK (by omega)])
      exact b1
    · repeat (first | rw [g_upS] | rw [g_upN (by decide)] | rw [g_upK (by omega)])
      exact b2
    · repeat (first | rw [g_upS] | rw [g_upN (by decide)] | rw [g_upK (by omega)])
      exact b3
    · repeat (first | rw [g_upS] | rw [g_upN (by decide)] | rw [g_upK (by omega)])
      exact b4
    · repeat (first | rw [g_upS] | rw [g_upN (by decide)] | rw [g_upK (by omega)])
      exact b5
    · repeat (first | rw [g_upS] | rw [g_upN (by decide)] | rw [g_upK (by omega)])
      exact b6
  · obtain ⟨⟨b1, b2, b3⟩, b4, b5, b6⟩ := c j hj hj6
    refine ⟨⟨?_, ?_, ?_⟩, ?_, ?_, ?_⟩
    · repeat (first | rw [g_upS] | rw [g_upN (by decide)] | rw [g_upK (by omega)])
      exact b1
    · repeat (first | rw [g_upS] | rw [g_upN (by decide)] | rw [g_upK (by omega)])
      exact b2
    · repeat (first | rw [g_upS] | rw [g_upN (by decide)] | rw [g_upK (by omega)])
      exact b3
    · repeat (first | rw [g_upS] | rw [g_upN (by decide)] | rw [g_upK (by omega)])
      exact b4
    · repeat (first | rw [g_upS] | rw [g_upN (by decide)] | rw [g_upK (by omega)])
      exact b5
    · repeat (first | rw [g_upS] | rw [g_upN (by decide)] | rw [g_upK (by omega)])
      exact b6
  · repeat (first | rw [g_upS] | rw [g_upN (by decide)] | rw [g_upK (by omega)])
    exact e 18 (by decide) (by decide)
  · repeat (first | rw [g_upS] | rw [g_upN (by decide)] | rw [g_upK (by omega)])
    exact e 20 (by decide) (by decide)
  · repeat (first | rw [g_upS] | rw [g_upN (by decide)] | rw [g_upK (by omega)])
    exact e q (by omega) h2
  · repeat (first | rw [g_upS] | rw [g_upN (by decide)] | rw [g_upK (by omega)])
  · repeat (first | rw [g_upS] | rw [g_upN (by decide)] | rw [g_upK (by omega)])
  · repeat (first | rw [g_upS] | rw [g_upN (by decide)] | rw [g_upK (by omega)])
  · repeat (first | rw [g_upS] | rw [g_upN (by decide)] | rw [g_upK (by omega)])
    exact g q h1 h2 h3 h4
  · rw [g_up_ne h7, g_up_ne h7, g_up_ne h1, g_up_ne h6]
    exact k q h1 h2 h3 h4 h5 h6
set_option maxRecDepth 4000 in
theorem lp_M_dyke2 {G : g_G} (l : Launch) (V : g_V) (S : g_L) (P : Option Value → g_V → g_L → Prop) (f d : Nat) (rf : Nat → Nat) (hf : f ≤ 6) (hd : d < 64) (hP : ∀ W, M_dy V W f d rf → P (some (.int (nI f))) W S) : ∀ (n : Nat) (i : Nat) (W : g_V), (M_dl V W f d rf i) → (i ≤ f) → f - i < n → JW G (g_M G l 6 (some .int) (P)) b_M_dyke R_M 48 [some (.ref (g_a G (201))), some (.int (nI (i)))] [] W S := by
  intro n
  induction n with
  | zero => intro i W hD hi hm; exact absurd hm (Nat.not_lt_zero _)
  | succ n ih =>
    intro i W hD hi hm
    have w4 := hD.1.1
    have w9 := hD.1.2.1
    refine j_iload_n (i := 1) d_M_dyke_48 rfl lg1 ?_
    refine j_aload_n (i := 0) d_M_dyke_49 rfl lg0 ?_
    refine gf_M_51 d_M_dyke_50 ?_
    rw [w4]
    refine j_icmp_geN (tgt := 155) d_M_dyke_53 (by decide) (by omega) (by omega) (fun h_53 => ?_) (fun h_53 => ?_)
    ·
      obtain rfl : i = f := by omega
      refine j_aload_n (i := 0) d_M_dyke_155 rfl lg0 ?_
      refine gf_M_25 d_M_dyke_156 ?_
      refine j_bipushN (k := 19) d_M_dyke_159 (by decide) ?_
      refine j_aload_n (i := 0) d_M_dyke_161 rfl lg0 ?_
      refine gf_M_75 d_M_dyke_162 ?_
      rw [w9]
      refine j_iast d_M_dyke_165 gI_207 (by omega) ?_
      refine j_aload_n (i := 0) d_M_dyke_166 rfl lg0 ?_
      refine j_iconstN (k := 0) d_M_dyke_167 (by decide) ?_
      refine pf_M_98 d_M_dyke_168 ?_
      refine j_aload_n (i := 0) d_M_dyke_171 rfl lg0 ?_
      refine gf_M_37 d_M_dyke_172 ?_
      refine j_iconstN (k := 0) d_M_dyke_175 (by decide) ?_
      refine j_iconstN (k := 0) d_M_dyke_176 (by decide) ?_
      refine j_zast d_M_dyke_177 (by omega) (by decide) ?_
      refine j_aload_n (i := 0) d_M_dyke_178 rfl lg0 ?_
      refine gf_M_37 d_M_dyke_179 ?_
      refine j_iconstN (k := 1) d_M_dyke_182 (by decide) ?_
      refine j_iconstN (k := 0) d_M_dyke_183 (by decide) ?_
      refine j_zast d_M_dyke_184 (by omega) (by decide) ?_
      refine j_aload_n (i := 0) d_M_dyke_185 rfl lg0 ?_
      refine gf_M_51 d_M_dyke_186 ?_
      refine j_eqv (b := W 201 4) (by rw [g_upN (by first | decide | omega | (unfold hB; omega)), g_upN (by first | decide | omega | (unfold hB; omega)), g_upK (by decide), g_upN (by first | decide | omega | (unfold hB; omega))]) ?_
      rw [w4]
      refine j_iret d_M_dyke_189 (hP _ (M_dl_end hD hf hd))
    ·
      refine j_aload_n (i := 0) d_M_dyke_56 rfl lg0 ?_
      refine gf_M_25 d_M_dyke_57 ?_
      refine j_iconstN (k := 0) d_M_dyke_60 (by decide) ?_
      refine j_iload_n (i := 1) d_M_dyke_61 rfl lg1 ?_
      refine j_iaddN d_M_dyke_62 ?_
      rw [Nat.zero_add i]
      refine j_aload_n (i := 0) d_M_dyke_63 rfl lg0 ?_
      refine gf_M_22 d_M_dyke_64 ?_
      refine j_iconstN (k := 5) d_M_dyke_67 (by decide) ?_
      refine j_iload_n (i := 1) d_M_dyke_68 rfl lg1 ?_
      refine j_imulN d_M_dyke_69 ?_
      refine j_iald d_M_dyke_70 gI_206 (by omega) ?_
      refine j_iast d_M_dyke_71 gI_207 (by omega) ?_
      refine j_aload_n (i := 0) d_M_dyke_72 rfl lg0 ?_
      refine gf_M_13 d_M_dyke_73 ?_
      refine j_iload_n (i := 1) d_M_dyke_76 rfl lg1 ?_
      refine j_aload_n (i := 0) d_M_dyke_77 rfl lg0 ?_
      refine gf_M_22 d_M_dyke_78 ?_
      refine j_iconstN (k := 5) d_M_dyke_81 (by decide) ?_
      refine j_iload_n (i := 1) d_M_dyke_82 rfl lg1 ?_
      refine j_imulN d_M_dyke_83 ?_
      refine j_iconstN (k := 1) d_M_dyke_84 (by decide) ?_
      refine j_iaddN d_M_dyke_85 ?_
      refine j_iald d_M_dyke_86 gI_206 (by omega) ?_
      refine j_eqv (b := W 206 ((5 * i) + 1)) (by rw [g_upN (by first | decide | omega | (unfold hB; omega))]) ?_
      refine j_iast d_M_dyke_87 gI_203 (by omega) ?_
      refine j_aload_n (i := 0) d_M_dyke_88 rfl lg0 ?_
      refine gf_M_25 d_M_dyke_89 ?_
      refine j_bipushN (k := 6) d_M_dyke_92 (by decide) ?_
      refine j_iload_n (i := 1) d_M_dyke_94 rfl lg1 ?_
      refine j_iaddN d_M_dyke_95 ?_
      refine j_aload_n (i := 0) d_M_dyke_96 rfl lg0 ?_
      refine gf_M_22 d_M_dyke_97 ?_
      refine j_iconstN (k := 5) d_M_dyke_100 (by decide) ?_
      refine j_iload_n (i := 1) d_M_dyke_101 rfl lg1 ?_
      refine j_imulN d_M_dyke_102 ?_
      refine j_iconstN (k := 2) d_M_dyke_103 (by decide) ?_
      refine j_iaddN d_M_dyke_104 ?_
      refine j_iald d_M_dyke_105 gI_206 (by omega) ?_
      refine j_eqv (b := W 206 ((5 * i) + 2)) (by rw [g_upN (by first | decide | omega | (unfold hB; omega)), g_upN (by first | decide | omega | (unfold hB; omega))]) ?_
      refine j_iast d_M_dyke_106 gI_207 (by omega) ?_
      refine j_aload_n (i := 0) d_M_dyke_107 rfl lg0 ?_
      refine gf_M_16 d_M_dyke_108 ?_
      refine j_iload_n (i := 1) d_M_dyke_111 rfl lg1 ?_
      refine j_aload_n (i := 0) d_M_dyke_112 rfl lg0 ?_
      refine gf_M_22 d_M_dyke_113 ?_
      refine j_iconstN (k := 5) d_M_dyke_116 (by decide) ?_
      refine j_iload_n (i := 1) d_M_dyke_117 rfl lg1 ?_
      refine j_imulN d_M_dyke_118 ?_
      refine j_iconstN (k := 3) d_M_dyke_119 (by decide) ?_
      refine j_iaddN d_M_dyke_120 ?_
      refine j_iald d_M_dyke_121 gI_206 (by omega) ?_
      refine j_eqv (b := W 206 ((5 * i) + 3)) (by rw [g_upN (by first | decide | omega | (unfold hB; omega)), g_upN (by first | decide | omega | (unfold hB; omega)), g_upN (by first | decide | omega | (unfold hB; omega))]) ?_
      refine j_iast d_M_dyke_122 gI_204 (by omega) ?_
      refine j_aload_n (i := 0) d_M_dyke_123 rfl lg0 ?_
      refine gf_M_19 d_M_dyke_124 ?_
      refine j_iload_n (i := 1) d_M_dyke_127 rfl lg1 ?_
      refine j_aload_n (i := 0) d_M_dyke_128 rfl lg0 ?_
      refine gf_M_22 d_M_dyke_129 ?_
      refine j_iconstN (k := 5) d_M_dyke_132 (by decide) ?_
      refine j_iload_n (i := 1) d_M_dyke_133 rfl lg1 ?_
      refine j_imulN d_M_dyke_134 ?_
      refine j_iconstN (k := 4) d_M_dyke_135 (by decide) ?_
      refine j_iaddN d_M_dyke_136 ?_
      refine j_iald d_M_dyke_137 gI_206 (by omega) ?_
      refine j_eqv (b := W 206 ((5 * i) + 4)) (by rw [g_upN (by first | decide | omega | (unfold hB; omega)), g_upN (by first | decide | omega | (unfold hB; omega)), g_upN (by first | decide | omega | (unfold hB; omega)), g_upN (by first | decide | omega | (unfold hB; omega))]) ?_
      refine j_iast d_M_dyke_138 gI_205 (by omega) ?_
      refine j_aload_n (i := 0) d_M_dyke_139 rfl lg0 ?_
      refine gf_M_25 d_M_dyke_140 ?_
      refine j_bipushN (k := 12) d_M_dyke_143 (by decide) ?_
      refine j_iload_n (i := 1) d_M_dyke_145 rfl lg1 ?_
      refine j_iaddN d_M_dyke_146 ?_
      refine j_iload_n (i := 1) d_M_dyke_147 rfl lg1 ?_
      refine j_iast d_M_dyke_148 gI_207 (by omega) ?_
      refine j_iincN (k := 1) d_M_dyke_149 lg1 (by decide) ls1r ?_
      refine j_goto (tgt := 48) d_M_dyke_152 (by decide) ?_
      exact ih (i + 1) (M_st W i) (M_dl_step hD (by omega) hf) (by omega) (by omega)
set_option maxRecDepth 4000 in
theorem lp_M_dyke1 {G : g_G} (l : Launch) (V : g_V) (S : g_L) (P : Option Value → g_V → g_L → Prop) (f d : Nat) (rf : Nat → Nat) (hf : f ≤ 6) (hd : d < 64) (hP : ∀ W, M_dy V W f d rf → P (some (.int (nI f))) W S) (W : g_V) (p : Nat) (hR : g_rw V W p f d rf) : ∀ (n : Nat) (i : Nat), (i ≤ 57) → 57 - i < n → JW G (g_M G l 6 (some .int) (P)) b_M_dyke R_M 27 [some (.ref (g_a G (201))), some (.int (nI (i)))] [] (g_pra (g_up W 201 4 f) 207 (fun _ => 0) 0 i) S := by
  intro n
  induction n with
  | zero => intro i hi hm; exact absurd hm (Nat.not_lt_zero _)
  | succ n ih =>
    intro i hi hm
    refine j_iload_n (i := 1) d_M_dyke_27 rfl lg1 ?_
    refine j_bipushN (k := 57) d_M_dyke_28 (by decide) ?_
    refine j_icmp_geN (tgt := 46) d_M_dyke_30 (by decide) (by omega) (by omega) (fun h_30 => ?_) (fun h_30 => ?_)
    ·
      refine j_iconstN (k := 0) d_M_dyke_46 (by decide) ?_
      refine j_istore_n d_M_dyke_47 rfl ls1r ?_
      rw [show i = 57 by omega]
      exact lp_M_dyke2 l V S P f d rf hf hd hP _ 0 _ (M_dl_0 hR) (Nat.zero_le _) (Nat.lt_succ_self _)
    ·
      refine j_aload_n (i := 0) d_M_dyke_33 rfl lg0 ?_
      refine gf_M_25 d_M_dyke_34 ?_
      refine j_iload_n (i := 1) d_M_dyke_37 rfl lg1 ?_
      refine j_iconstN (k := 0) d_M_dyke_38 (by decide) ?_
      refine j_iast d_M_dyke_39 gI_207 (by omega) ?_
      refine j_iincN (k := 1) d_M_dyke_40 lg1 (by decide) ls1r ?_
      refine j_goto (tgt := 27) d_M_dyke_43 (by decide) ?_
      rw [g_pra_step0 (f := fun _ => 0)]
      exact ih (i + 1) (by omega) (by omega)
theorem M_dy_none {n : Nat} {L : Nat → Nat} : q_an (q_fault n L).1 = -9 ↔ (q_fault n L).1 = none := q_fault_none
set_option maxRecDepth 4000 in
theorem c_M_dyke {G : g_G} (l : Launch) (V : g_V) (S : g_L) (h0 : V 201 0 = 0) (hT : M_T V) : g_C G l y_M_dyke b_M_dyke 2 (some .int) 6 [.ref (g_a G (201))] V S (fun r V' S' => S' = S ∧ ((¬ (q_fault (V 201 2) (V 202)).1 = none ∧ r = some (.int (-3)) ∧ ∃ p f d rf, g_rw V V' p f d rf) ∨ ((q_fault (V 201 2) (V 202)).1 = none ∧ r = some (.int (nI (q_fault (V 201 2) (V 202)).2.1)) ∧ M_dy V V' (q_fault (V 201 2) (V 202)).2.1 (q_fault (V 201 2) (V 202)).2.2.1 (q_fault (V 201 2) (V 202)).2.2.2))) := by
  refine g_C.of (lv := [some (.ref (g_a G (201))), none]) (by decide +kernel) rfl rfl rfl (Nat.le_of_ble_eq_true rfl) ?_
  refine j_aload_n (i := 0) d_M_dyke_0 rfl lg0 ?_
  refine j_iconstN (k := 0) d_M_dyke_1 (by decide) ?_
  refine pf_M_47 d_M_dyke_2 ?_
  rw [g_up_id h0]
  refine j_aload_n (i := 0) d_M_dyke_5 rfl lg0 ?_
  refine cl_M_94 (c_M_readDyke l V S hT) d_M_dyke_6 rfl rfl (g_ftM (by decide)) (Nat.le_of_ble_eq_true rfl) ?_
  rintro _ W S1 ⟨hS1, rfl, p, f, d, rf, hR, hF⟩
  rw [hS1]
  refine j_bipush (v := -9) d_M_dyke_9 (by decide) ?_
  refine j_icmp_eq (tgt := 17) d_M_dyke_11 (by decide) (fun h_11 => ?_) (fun h_11 => ?_)
  ·
    have hno := M_dy_none.mp h_11
    obtain ⟨hE, hf6, hd6⟩ := hF hno
    have h8 := hR.2.2.1.2.1
    refine j_aload_n (i := 0) d_M_dyke_17 rfl lg0 ?_
    refine j_aload_n (i := 0) d_M_dyke_18 rfl lg0 ?_
    refine gf_M_68 d_M_dyke_19 ?_
    rw [h8]
    refine pf_M_51 d_M_dyke_22 ?_
    refine j_iconstN (k := 0) d_M_dyke_25 (by decide) ?_
    refine j_istore_n d_M_dyke_26 rfl ls1r ?_
    have h := lp_M_dyke1 (G := G) l V S (fun r V' S' => S' = S ∧ ((¬ (q_fault (V 201 2) (V 202)).1 = none ∧ r = some (.int (-3)) ∧ ∃ p f d rf, g_rw V V' p f d rf) ∨ ((q_fault (V 201 2) (V 202)).1 = none ∧ r = some (.int (nI (q_fault (V 201 2) (V 202)).2.1)) ∧ M_dy V V' (q_fault (V 201 2) (V 202)).2.1 (q_fault (V 201 2) (V 202)).2.2.1 (q_fault (V 201 2) (V 202)).2.2.2))) f d rf hf6 hd6 (fun W2 hy => ⟨rfl, Or.inr ⟨hno, by rw [hE], by rw [hE]; exact hy⟩⟩) W p hR _ 0 (Nat.zero_le _) (Nat.lt_succ_self _)
    rw [g_pra_0] at h
    exact h
  ·
    refine j_bipush (v := -3) d_M_dyke_14 (by decide) ?_
    refine j_iret d_M_dyke_16 ⟨rfl, Or.inl ⟨fun q => h_11 (M_dy_none.mpr q), rfl, p, f, d, rf, hR⟩⟩
