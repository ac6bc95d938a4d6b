/-! The reference: acts, what is kept. -/
/-- row c, its places o to o+i as f says -/
def g_pra (V : g_V) (c : Nat) (f : Nat → Nat) (o i : Nat) : g_V := g_row V c (fun k => if o ≤ k ∧ k < o + i then f (k - o) else V c k)
theorem g_pra_N {V : g_V} {c : Nat} {f : Nat → Nat} {o i c' : Nat} (h : c' ≠ c) : g_pra V c f o i c' = V c' := g_rowN h
theorem g_pra_T {V : g_V} {c : Nat} {f : Nat → Nat} {o i k : Nat} (h : ¬ (o ≤ k ∧ k < o + i)) : g_pra V c f o i c k = V c k := by
  unfold g_pra; rw [g_rowS]; exact if_neg h
theorem g_pra_S {V : g_V} {c : Nat} {f : Nat → Nat} {o i k : Nat} (h : k < i) : g_pra V c f o i c (o + k) = f k := by
  unfold g_pra; rw [g_rowS]
  show (if _ then _ else _) = _
  rw [if_pos ⟨by omega, by omega⟩, Nat.add_sub_cancel_left]
theorem g_pra_S0 {V : g_V} {c : Nat} {f : Nat → Nat} {i k : Nat} (h : k < i) : g_pra V c f 0 i c k = f k := by
  have := g_pra_S (V := V) (c := c) (f := f) (o := 0) h
  rwa [Nat.zero_add] at this
theorem g_pra_0 {V : g_V} {c : Nat} {f : Nat → Nat} {o : Nat} : g_pra V c f o 0 = V := by
  funext c' k
  unfold g_pra g_row
  by_cases h : c' = c
  · subst h
    rw [if_pos rfl]
    show (if _ then _ else _) = _
    rw [if_neg (by omega)]
  · rw [if_neg h]
theorem g_pra_step {V : g_V} {c : Nat} {f : Nat → Nat} {o i : Nat} : g_up (g_pra V c f o i) c (o + i) (f i) = g_pra V c f o (i + 1) := by
  funext c' k
  unfold g_up g_pra g_row
  by_cases h : c' = c
  · subst h
    by_cases hk : k = o + i
    · subst hk
      simp
    · by_cases hl : o ≤ k ∧ k < o + i
      · have h2 : o ≤ k ∧ k < o + (i + 1) := ⟨hl.1, by omega⟩
        simp [hk, hl, h2]
      · have h2 : ¬ (o ≤ k ∧ k < o + (i + 1)) := fun q => hl ⟨q.1, by omega⟩
        simp [hk, hl, h2]
  · simp [h]
theorem g_pra_step0 {V : g_V} {c : Nat} {f : Nat → Nat} {i : Nat} : g_up (g_pra V c f 0 i) c i (f i) = g_pra V c f 0 (i + 1) := by
  have := g_pra_step (V := V) (c := c) (f := f) (o := 0) (i := i)
  rwa [Nat.zero_add] at this
/-- the book, its first page gone -/
def g_n1 (V : g_V) : g_V := g_up (g_pra V 209 (fun k => V 209 (k + 57)) 0 741) 201 14 (V 201 14 - 1)
/-- the page noted behind the others -/
def g_n2 (V : g_V) : g_V := g_up (g_pra V 209 (V 207) (57 * V 201 14) 57) 201 14 (V 201 14 + 1)
def g_nt (V : g_V) : g_V := if V 201 14 = 14 then g_n2 (g_n1 V) else g_n2 V
theorem g_n1_c {V : g_V} {c : Nat} (h1 : c ≠ 201) (h2 : c ≠ 209) : g_n1 V c = V c := by
  unfold g_n1; rw [g_up_ne h1, g_pra_N h2]
theorem g_n2_c {V : g_V} {c : Nat} (h1 : c ≠ 201) (h2 : c ≠ 209) : g_n2 V c = V c := by
  unfold g_n2; rw [g_up_ne h1, g_pra_N h2]
theorem g_nt_c {V : g_V} {c : Nat} (h1 : c ≠ 201) (h2 : c ≠ 209) : g_nt V c = V c := by
  unfold g_nt
  by_cases h : V 201 14 = 14
  · rw [if_pos h, g_n2_c h1 h2, g_n1_c h1 h2]
  · rw [if_neg h, g_n2_c h1 h2]
theorem g_n1_k {V : g_V} {k : Nat} (h1 : k ≠ 14) : g_n1 V 201 k = V 201 k := by
  unfold g_n1; rw [g_upK h1, g_pra_N (by decide)]
theorem g_n2_k {V : g_V} {k : Nat} (h1 : k ≠ 14) : g_n2 V 201 k = V 201 k := by
  unfold g_n2; rw [g_upK h1, g_pra_N (by decide)]
theorem g_nt_k {V : g_V} {k : Nat} (h1 : k ≠ 14) : g_nt V 201 k = V 201 k := by
  unfold g_nt
  by_cases h : V 201 14 = 14
  · rw [if_pos h, g_n2_k h1, g_n1_k h1]
  · rw [if_neg h, g_n2_k h1]
set_option maxRecDepth 4000 in
theorem lp_M_note2 {G : g_G} (l : Launch) (V : g_V) (S : g_L) (Z : g_V) (hZ : g_n2 V = Z) (hA : V 201 14 < 14) : ∀ (n : Nat) (i : Nat), (i ≤ 57) → 57 - i < n → JW G (g_M G l 1 none (fun r V' S' => r = none ∧ V' = Z ∧ S' = S)) b_M_note R_M 51 [some (.ref (g_a G (201))), some (.int (nI (i)))] [] (g_pra V 209 (V 207) (57 * V 201 14) i) S := by
  intro n
  induction n with
  | zero => intro i hi hm; exact absurd hm (Nat.not_lt_zero _)
  | succ n ih =>
    intro i hi hm
    have e14 : g_pra V 209 (V 207) (57 * V 201 14) i 201 = V 201 := g_pra_N (by decide)
    have e207 : g_pra V 209 (V 207) (57 * V 201 14) i 207 = V 207 := g_pra_N (by decide)
    refine j_iload_n (i := 1) d_M_note_51 rfl lg1 ?_
    refine j_bipushN (k := 57) d_M_note_52 (by decide) ?_
    refine j_icmp_geN (tgt := 83) d_M_note_54 (by decide) (by omega) (by omega) (fun h_54 => ?_) (fun h_54 => ?_)
    ·
      refine j_aload_n (i := 0) d_M_note_83 rfl lg0 ?_
      refine j_dup d_M_note_84 rfl ?_
      refine gf_M_98 d_M_note_85 ?_
      rw [e14]
      refine j_iconstN (k := 1) d_M_note_88 (by decide) ?_
      refine j_iaddN d_M_note_89 ?_
      refine pf_M_98 d_M_note_90 ?_
      have hi57 : i = 57 := by omega
      refine j_vret d_M_note_93 ⟨rfl, by rw [← hZ, hi57]; rfl, rfl⟩
    ·
      refine j_aload_n (i := 0) d_M_note_57 rfl lg0 ?_
      refine gf_M_31 d_M_note_58 ?_
      refine j_bipushN (k := 57) d_M_note_61 (by decide) ?_
      refine j_aload_n (i := 0) d_M_note_63 rfl lg0 ?_
      refine gf_M_98 d_M_note_64 ?_
      rw [e14]
      refine j_imulN d_M_note_67 ?_
      refine j_iload_n (i := 1) d_M_note_68 rfl lg1 ?_
      refine j_iaddN d_M_note_69 ?_
      refine j_aload_n (i := 0) d_M_note_70 rfl lg0 ?_
      refine gf_M_25 d_M_note_71 ?_
      refine j_iload_n (i := 1) d_M_note_74 rfl lg1 ?_
      refine j_iald d_M_note_75 gI_207 (by omega) ?_
      rw [e207]
      refine j_iast d_M_note_76 gI_209 (by omega) ?_
      refine j_iincN (k := 1) d_M_note_77 lg1 (by decide) ls1r ?_
      refine j_goto (tgt := 51) d_M_note_80 (by decide) ?_
      rw [g_pra_step]
      exact ih (i + 1) (by omega) (by omega)
set_option maxRecDepth 4000 in
theorem lp_M_note1 {G : g_G} (l : Launch) (V : g_V) (S : g_L) (hA : V 201 14 = 14) : ∀ (n : Nat) (i : Nat), (i ≤ 741) → 741 - i < n → JW G (g_M G l 1 none (fun r V' S' => r = none ∧ V' = g_nt V ∧ S' = S)) b_M_note R_M 11 [some (.ref (g_a G (201))), some (.int (nI (i)))] [] (g_pra V 209 (fun k => V 209 (k + 57)) 0 i) S := by
  intro n
  induction n with
  | zero => intro i hi hm; exact absurd hm (Nat.not_lt_zero _)
  | succ n ih =>
    intro i hi hm
    have e14 : g_pra V 209 (fun k => V 209 (k + 57)) 0 i 201 = V 201 := g_pra_N (by decide)
    refine j_iload_n (i := 1) d_M_note_11 rfl lg1 ?_
    refine j_sipushN (k := 741) d_M_note_12 (by decide) ?_
    refine j_icmp_geN (tgt := 39) d_M_note_15 (by decide) (by omega) (by omega) (fun h_15 => ?_) (fun h_15 => ?_)
    ·
      refine j_aload_n (i := 0) d_M_note_39 rfl lg0 ?_
      refine j_dup d_M_note_40 rfl ?_
      refine gf_M_98 d_M_note_41 ?_
      rw [e14]
      refine j_iconstN (k := 1) d_M_note_44 (by decide) ?_
      refine j_isubN d_M_note_45 (by omega) ?_
      refine pf_M_98 d_M_note_46 ?_
      refine j_iconstN (k := 0) d_M_note_49 (by decide) ?_
      refine j_istore_n d_M_note_50 rfl ls1r ?_
      rw [show i = 741 by omega]
      have h := lp_M_note2 (G := G) l (g_n1 V) S (g_nt V) (by unfold g_nt; rw [if_pos hA]) (by unfold g_n1; rw [g_upS]; omega) _ 0 (by omega) (Nat.lt_succ_self _)
      rw [g_pra_0] at h
      exact h
    ·
      refine j_aload_n (i := 0) d_M_note_18 rfl lg0 ?_
      refine gf_M_31 d_M_note_19 ?_
      refine j_iload_n (i := 1) d_M_note_22 rfl lg1 ?_
      refine j_aload_n (i := 0) d_M_note_23 rfl lg0 ?_
      refine gf_M_31 d_M_note_24 ?_
      refine j_iload_n (i := 1) d_M_note_27 rfl lg1 ?_
      refine j_bipushN (k := 57) d_M_note_28 (by decide) ?_
      refine j_iaddN d_M_note_30 ?_
      refine j_iald d_M_note_31 gI_209 (by omega) ?_
      rw [show g_pra V 209 (fun k => V 209 (k + 57)) 0 i 209 (i + 57) = V 209 (i + 57) from g_pra_T (by omega)]
      refine j_iast d_M_note_32 gI_209 (by omega) ?_
      refine j_iincN (k := 1) d_M_note_33 lg1 (by decide) ls1r ?_
      refine j_goto (tgt := 11) d_M_note_36 (by decide) ?_
      rw [g_pra_step0 (f := fun k => V 209 (k + 57))]
      exact ih (i + 1) (by omega) (by omega)
set_option maxRecDepth 4000 in
theorem c_M_note {G : g_G} (l : Launch) (V : g_V) (S : g_L) (hA : V 201 14 ≤ 14) : g_C G l y_M_note b_M_note 2 none 1 [.ref (g_a G (201))] V S (fun r V' S' => r = none ∧ V' = g_nt V ∧ S' = S) := by
  refine g_C.of (lv := [some (.ref (g_a G (201))), none]) (by decide +kernel) rfl rfl rfl (Nat.le_of_ble_eq_true rfl) ?_
  refine j_aload_n (i := 0) d_M_note_0 rfl lg0 ?_
  refine gf_M_98 d_M_note_1 ?_
  refine j_bipushN (k := 14) d_M_note_4 (by decide) ?_
  refine j_icmp_neN (tgt := 49) d_M_note_6 (by decide) (by omega) (by omega) (fun h_6 => ?_) (fun h_6 => ?_)
  ·
    refine j_iconstN (k := 0) d_M_note_49 (by decide) ?_
    refine j_istore_n d_M_note_50 rfl ls1r ?_
    have h := lp_M_note2 (G := G) l V S (g_nt V) (by unfold g_nt; rw [if_neg (by omega)]) (by omega) _ 0 (by omega) (Nat.lt_succ_self _)
    rw [g_pra_0] at h
    exact h
  ·
    refine j_iconstN (k := 0) d_M_note_9 (by decide) ?_
    refine j_istore_n d_M_note_10 rfl ls1r ?_
    have h := lp_M_note1 (G := G) l V S (by omega) _ 0 (by omega) (Nat.lt_succ_self _)
    rw [g_pra_0] at h
    exact h
set_option maxRecDepth 4000 in
theorem c_M_carry {G : g_G} (l : Launch) (V : g_V) (S : g_L) (hO : M_OK V) (x y : Int32) : g_C G l y_M_carry b_M_carry 3 (some .int) 3 [.ref (g_a G (201)), .int (x), .int (y)] V S (fun r V' S' => S' = S ∧ ((¬ (q_in x (V 201 4) ∧ q_in y (V 201 4)) ∧ g_no V (-1) r V') ∨ (q_in x (V 201 4) ∧ q_in y (V 201 4)) ∧ ((V 207 (6 + q_n x) < 1 ∧ g_no V (-3) r V') ∨ (1 ≤ V 207 (6 + q_n x) ∧ 15 ≤ V 207 (q_n y) ∧ g_no V (-4) r V') ∨ (1 ≤ V 207 (6 + q_n x) ∧ V 207 (q_n y) < 15 ∧ V' = g_up (g_up (g_nt V) 207 (6 + q_n x) (V 207 (6 + q_n x) - 1)) 207 (q_n y) (V 207 (q_n y) + 1) ∧ r = some (.int (nI (V 207 (q_n y) + 1))))))) := by
  refine g_C.of (lv := [some (.ref (g_a G (201))), some (.int (x)), some (.int (y))]) (by decide +kernel) rfl rfl rfl (Nat.le_of_ble_eq_true rfl) ?_
  have h0 := hO.1.1
  have hn := hO.1.2.1
  have hK := hO.1.2.2.1
  have hX := hO.1.2.2.2.1
  have hA := hO.1.2.2.2.2
  have hH := hO.2.1
  have hW := hO.2.2.1
  have hsp := hO.2.2.2.1
  have hd := hO.2.2.2.2.1
  have htd := hO.2.2.2.2.2
  refine j_aload_n (i := 0) d_M_carry_0 rfl lg0 ?_
  refine j_iconstN (k := 0) d_M_carry_1 (by decide) ?_
  refine pf_M_47 d_M_carry_2 ?_
  rw [g_up_id h0]
  refine j_aload_n (i := 0) d_M_carry_5 rfl lg0 ?_
  refine j_iload_n (i := 1) d_M_carry_6 rfl lg1 ?_
  refine cl_M_115 (c_M_noFarm l V S (by omega) (x)) d_M_carry_7 rfl rfl (g_ftM (by decide)) (Nat.le_of_ble_eq_true rfl) (g_pu ?_)
  refine j_if_neB (tgt := 21) d_M_carry_10 (by decide) (fun h_10 => ?_) (fun h_10 => ?_)
  ·
    refine j_iconst (v := -1) d_M_carry_21 (by decide) ?_
    refine j_iret d_M_carry_22 ⟨rfl, Or.inl ⟨fun q => by first | exact h_10 q.1 | exact h_18 q.2, rfl, rfl⟩⟩
  ·
    refine j_aload_n (i := 0) d_M_carry_13 rfl lg0 ?_
    refine j_iload_n (i := 2) d_M_carry_14 rfl lg2 ?_
    refine cl_M_115 (c_M_noFarm l V S (by omega) (y)) d_M_carry_15 rfl rfl (g_ftM (by decide)) (Nat.le_of_ble_eq_true rfl) (g_pu ?_)
    refine j_if_eqB (tgt := 23) d_M_carry_18 (by decide) (fun h_18 => ?_) (fun h_18 => ?_)
    ·
      have hxf := Classical.not_not.mp h_10
      have hyf := Classical.not_not.mp h_18
      obtain ⟨f, hf, rfl⟩ := q_in_of hxf (by omega)
      obtain ⟨g, hg, rfl⟩ := q_in_of hyf (by omega)
      rw [q_n_nI (k := f) (by omega), q_n_nI (k := g) (by omega)]
      have hcf := hW f (by omega)
      have hhg := hH g (by omega)
      refine j_aload_n (i := 0) d_M_carry_23 rfl lg0 ?_
      refine gf_M_25 d_M_carry_24 ?_
      refine j_bipushN (k := 6) d_M_carry_27 (by decide) ?_
      refine j_iload_n (i := 1) d_M_carry_29 rfl lg1 ?_
      refine j_iaddN d_M_carry_30 ?_
      refine j_iald d_M_carry_31 gI_207 (by omega) ?_
      refine j_if_neN (tgt := 38) d_M_carry_32 (by decide) (by omega) (fun h_32 => ?_) (fun h_32 => ?_)
      ·
        refine j_aload_n (i := 0) d_M_carry_38 rfl lg0 ?_
        refine gf_M_25 d_M_carry_39 ?_
        refine j_iconstN (k := 0) d_M_carry_42 (by decide) ?_
        refine j_iload_n (i := 2) d_M_carry_43 rfl lg2 ?_
        refine j_iaddN d_M_carry_44 ?_
        rw [Nat.zero_add]
        refine j_iald d_M_carry_45 gI_207 (by omega) ?_
        refine j_bipushN (k := 15) d_M_carry_46 (by decide) ?_
        refine j_icmp_ltN (tgt := 54) d_M_carry_48 (by decide) (by omega) (by omega) (fun h_48 => ?_) (fun h_48 => ?_)
        ·
          refine j_aload_n (i := 0) d_M_carry_54 rfl lg0 ?_
          refine cl_M_122 (c_M_note l V S hA) d_M_carry_55 rfl rfl (g_ftM (by decide)) (Nat.le_of_ble_eq_true rfl) (g_pw ?_)
          refine j_aload_n (i := 0) d_M_carry_58 rfl lg0 ?_
          refine gf_M_25 d_M_carry_59 ?_
          refine j_bipushN (k := 6) d_M_carry_62 (by decide) ?_
          refine j_iload_n (i := 1) d_M_carry_64 rfl lg1 ?_
          refine j_iaddN d_M_carry_65 ?_
          refine j_dup2 d_M_carry_66 rfl rfl ?_
          refine j_iald d_M_carry_67 gI_207 (by omega) ?_
          refine j_eqv (b := V 207 (6 + f)) (by rw [g_nt_c (c := 207) (by decide) (by decide)]) ?_
          refine j_iconstN (k := 1) d_M_carry_68 (by decide) ?_
          refine j_isubN d_M_carry_69 (by omega) ?_
          refine j_iast d_M_carry_70 gI_207 (by omega) ?_
          refine j_aload_n (i := 0) d_M_carry_71 rfl lg0 ?_
          refine gf_M_25 d_M_carry_72 ?_
          refine j_iconstN (k := 0) d_M_carry_75 (by decide) ?_
          refine j_iload_n (i := 2) d_M_carry_76 rfl lg2 ?_
          refine j_iaddN d_M_carry_77 ?_
          rw [Nat.zero_add]
          refine j_dup2 d_M_carry_78 rfl rfl ?_
          refine j_iald d_M_carry_79 gI_207 (by omega) ?_
          rw [show (g_up (g_nt V) 207 (6 + f) ((V 207 (6 + f)) - 1)) 207 g = V 207 g from by rw [g_upK (by omega), g_nt_c (by decide) (by decide)]]
          refine j_iconstN (k := 1) d_M_carry_80 (by decide) ?_
          refine j_iaddN d_M_carry_81 ?_
          refine j_iast d_M_carry_82 gI_207 (by omega) ?_
          refine j_aload_n (i := 0) d_M_carry_83 rfl lg0 ?_
          refine gf_M_25 d_M_carry_84 ?_
          refine j_iconstN (k := 0) d_M_carry_87 (by decide) ?_
          refine j_iload_n (i := 2) d_M_carry_88 rfl lg2 ?_
          refine j_iaddN d_M_carry_89 ?_
          rw [Nat.zero_add]
          refine j_iald d_M_carry_90 gI_207 (by omega) ?_
          refine j_eqv (b := (V 207 g) + 1) (by rw [g_upS]) ?_
          refine j_iret d_M_carry_91 ⟨rfl, Or.inr ⟨⟨hxf, hyf⟩, Or.inr (Or.inr ⟨by omega, by omega, rfl, rfl⟩)⟩⟩
        ·
          refine j_bipush (v := -4) d_M_carry_51 (by decide) ?_
          refine j_iret d_M_carry_53 ⟨rfl, Or.inr ⟨⟨hxf, hyf⟩, Or.inr (Or.inl ⟨by omega, by omega, rfl, rfl⟩)⟩⟩
      ·
        refine j_bipush (v := -3) d_M_carry_35 (by decide) ?_
        refine j_iret d_M_carry_37 ⟨rfl, Or.inr ⟨⟨hxf, hyf⟩, Or.inl ⟨by omega, rfl, rfl⟩⟩⟩
    ·
      refine j_iconst (v := -1) d_M_carry_21 (by decide) ?_
      refine j_iret d_M_carry_22 ⟨rfl, Or.inl ⟨fun q => by first | exact h_10 q.1 | exact h_18 q.2, rfl, rfl⟩⟩
set_option maxRecDepth 4000 in
theorem c_M_lend {G : g_G} (l : Launch) (V : g_V) (S : g_L) (hO : M_OK V) (x y : Int32) : g_C G l y_M_lend b_M_lend 3 (some .int) 3 [.ref (g_a G (201)), .int (x), .int (y)] V S (fun r V' S' => S' = S ∧ ((¬ (q_in x (V 201 4) ∧ q_in y (V 201 4)) ∧ g_no V (-1) r V') ∨ (q_in x (V 201 4) ∧ q_in y (V 201 4)) ∧ ((x = y ∧ g_no V (-2) r V') ∨ (¬ x = y ∧ V 207 (6 + q_n x) < 1 ∧ g_no V (-3) r V') ∨ (¬ x = y ∧ 1 ≤ V 207 (6 + q_n x) ∧ V' = g_up (g_up (g_up (g_nt V) 207 (6 + q_n x) (V 207 (6 + q_n x) - 1)) 207 (6 + q_n y) (V 207 (6 + q_n y) + 1)) 207 (21 + 6 * q_n y + q_n x) (V 207 (21 + 6 * q_n y + q_n x) + 1) ∧ r = some (.int (nI (V 207 (21 + 6 * q_n y + q_n x) + 1))))))) := by
  refine g_C.of (lv := [some (.ref (g_a G (201))), some (.int (x)), some (.int (y))]) (by decide +kernel) rfl rfl rfl (Nat.le_of_ble_eq_true rfl) ?_
  have h0 := hO.1.1
  have hn := hO.1.2.1
  have hK := hO.1.2.2.1
  have hX := hO.1.2.2.2.1
  have hA := hO.1.2.2.2.2
  have hH := hO.2.1
  have hW := hO.2.2.1
  have hsp := hO.2.2.2.1
  have hd := hO.2.2.2.2.1
  have htd := hO.2.2.2.2.2
  refine j_aload_n (i := 0) d_M_lend_0 rfl lg0 ?_
  refine j_iconstN (k := 0) d_M_lend_1 (by decide) ?_
  refine pf_M_47 d_M_lend_2 ?_
  rw [g_up_id h0]
  refine j_aload_n (i := 0) d_M_lend_5 rfl lg0 ?_
  refine j_iload_n (i := 1) d_M_lend_6 rfl lg1 ?_
  refine cl_M_115 (c_M_noFarm l V S (by omega) (x)) d_M_lend_7 rfl rfl (g_ftM (by decide)) (Nat.le_of_ble_eq_true rfl) (g_pu ?_)
  refine j_if_neB (tgt := 21) d_M_lend_10 (by decide) (fun h_10 => ?_) (fun h_10 => ?_)
  ·
    refine j_iconst (v := -1) d_M_lend_21 (by decide) ?_
    refine j_iret d_M_lend_22 ⟨rfl, Or.inl ⟨fun q => by first | exact h_10 q.1 | exact h_18 q.2, rfl, rfl⟩⟩
  ·
    refine j_aload_n (i := 0) d_M_lend_13 rfl lg0 ?_
    refine j_iload_n (i := 2) d_M_lend_14 rfl lg2 ?_
    refine cl_M_115 (c_M_noFarm l V S (by omega) (y)) d_M_lend_15 rfl rfl (g_ftM (by decide)) (Nat.le_of_ble_eq_true rfl) (g_pu ?_)
    refine j_if_eqB (tgt := 23) d_M_lend_18 (by decide) (fun h_18 => ?_) (fun h_18 => ?_)
    ·
      have hxf := Classical.not_not.mp h_10
      have hyf := Classical.not_not.mp h_18
      obtain ⟨f, hf, rfl⟩ := q_in_of hxf (by omega)
      obtain ⟨g, hg, rfl⟩ := q_in_of hyf (by omega)
      rw [q_n_nI (k := f) (by omega), q_n_nI (k := g) (by omega)]
      have hcf := hW f (by omega)
      have hhg := hH g (by omega)
      refine j_iload_n (i := 1) d_M_lend_23 rfl lg1 ?_
      refine j_iload_n (i := 2) d_M_lend_24 rfl lg2 ?_
      refine j_icmp_neN (tgt := 31) d_M_lend_25 (by decide) (by omega) (by omega) (fun h_25 => ?_) (fun h_25 => ?_)
      ·
        have hne : ¬ f = g := h_25
        have hxy : ¬ nI f = nI g := fun q => hne ((nI_eq (by omega) (by omega)).mp q)
        refine j_aload_n (i := 0) d_M_lend_31 rfl lg0 ?_
        refine gf_M_25 d_M_lend_32 ?_
        refine j_bipushN (k := 6) d_M_lend_35 (by decide) ?_
        refine j_iload_n (i := 1) d_M_lend_37 rfl lg1 ?_
        refine j_iaddN d_M_lend_38 ?_
        refine j_iald d_M_lend_39 gI_207 (by omega) ?_
        refine j_if_neN (tgt := 46) d_M_lend_40 (by decide) (by omega) (fun h_40 => ?_) (fun h_40 => ?_)
        ·
          refine j_aload_n (i := 0) d_M_lend_46 rfl lg0 ?_
          refine cl_M_122 (c_M_note l V S hA) d_M_lend_47 rfl rfl (g_ftM (by decide)) (Nat.le_of_ble_eq_true rfl) (g_pw ?_)
          refine j_aload_n (i := 0) d_M_lend_50 rfl lg0 ?_
          refine gf_M_25 d_M_lend_51 ?_
          refine j_bipushN (k := 6) d_M_lend_54 (by decide) ?_
          refine j_iload_n (i := 1) d_M_lend_56 rfl lg1 ?_
          refine j_iaddN d_M_lend_57 ?_
          refine j_dup2 d_M_lend_58 rfl rfl ?_
          refine j_iald d_M_lend_59 gI_207 (by omega) ?_
          refine j_eqv (b := V 207 (6 + f)) (by rw [g_nt_c (c := 207) (by decide) (by decide)]) ?_
          refine j_iconstN (k := 1) d_M_lend_60 (by decide) ?_
          refine j_isubN d_M_lend_61 (by omega) ?_
          refine j_iast d_M_lend_62 gI_207 (by omega) ?_
          refine j_aload_n (i := 0) d_M_lend_63 rfl lg0 ?_
          refine gf_M_25 d_M_lend_64 ?_
          refine j_bipushN (k := 6) d_M_lend_67 (by decide) ?_
          refine j_iload_n (i := 2) d_M_lend_69 rfl lg2 ?_
          refine j_iaddN d_M_lend_70 ?_
          refine j_dup2 d_M_lend_71 rfl rfl ?_
          refine j_iald d_M_lend_72 gI_207 (by omega) ?_
          rw [show (g_up (g_nt V) 207 (6 + f) ((V 207 (6 + f)) - 1)) 207 (6 + g) = V 207 (6 + g) from by rw [g_upK (by omega), g_nt_c (by decide) (by decide)]]
          refine j_iconstN (k := 1) d_M_lend_73 (by decide) ?_
          refine j_iaddN d_M_lend_74 ?_
          refine j_iast d_M_lend_75 gI_207 (by omega) ?_
          refine j_aload_n (i := 0) d_M_lend_76 rfl lg0 ?_
          refine gf_M_25 d_M_lend_77 ?_
          refine j_bipushN (k := 21) d_M_lend_80 (by decide) ?_
          refine j_bipushN (k := 6) d_M_lend_82 (by decide) ?_
          refine j_iload_n (i := 2) d_M_lend_84 rfl lg2 ?_
          refine j_imulN d_M_lend_85 ?_
          refine j_iaddN d_M_lend_86 ?_
          refine j_iload_n (i := 1) d_M_lend_87 rfl lg1 ?_
          refine j_iaddN d_M_lend_88 ?_
          refine j_dup2 d_M_lend_89 rfl rfl ?_
          refine j_iald d_M_lend_90 gI_207 (by omega) ?_
          rw [show (g_up (g_up (g_nt V) 207 (6 + f) ((V 207 (6 + f)) - 1)) 207 (6 + g) ((V 207 (6 + g)) + 1)) 207 ((21 + (6 * g)) + f) = V 207 (21 + 6 * g + f) from by rw [g_upK (by omega), g_upK (by omega), g_nt_c (by decide) (by decide)]]
          refine j_iconstN (k := 1) d_M_lend_91 (by decide) ?_
          refine j_iaddN d_M_lend_92 ?_
          refine j_iast d_M_lend_93 gI_207 (by omega) ?_
          refine j_aload_n (i := 0) d_M_lend_94 rfl lg0 ?_
          refine gf_M_25 d_M_lend_95 ?_
          refine j_bipushN (k := 21) d_M_lend_98 (by decide) ?_
          refine j_bipushN (k := 6) d_M_lend_100 (by decide) ?_
          refine j_iload_n (i := 2) d_M_lend_102 rfl lg2 ?_
          refine j_imulN d_M_lend_103 ?_
          refine j_iaddN d_M_lend_104 ?_
          refine j_iload_n (i := 1) d_M_lend_105 rfl lg1 ?_
          refine j_iaddN d_M_lend_106 ?_
          refine j_iald d_M_lend_107 gI_207 (by omega) ?_
          refine j_eqv (b := (V 207 (21 + 6 * g + f)) + 1) (by rw [g_upS]) ?_
          refine j_iret d_M_lend_108 ⟨rfl, Or.inr ⟨⟨hxf, hyf⟩, Or.inr (Or.inr ⟨hxy, by omega, rfl, rfl⟩)⟩⟩
        ·
          refine j_bipush (v := -3) d_M_lend_43 (by decide) ?_
          refine j_iret d_M_lend_45 ⟨rfl, Or.inr ⟨⟨hxf, hyf⟩, Or.inr (Or.inl ⟨hxy, by omega, rfl, rfl⟩)⟩⟩
      ·
        refine j_bipush (v := -2) d_M_lend_28 (by decide) ?_
        refine j_iret d_M_lend_30 ⟨rfl, Or.inr ⟨⟨hxf, hyf⟩, Or.inl ⟨by rw [h_25], rfl, rfl⟩⟩⟩
    ·
      refine j_iconst (v := -1) d_M_lend_21 (by decide) ?_
      refine j_iret d_M_lend_22 ⟨rfl, Or.inl ⟨fun q => by first | exact h_10 q.1 | exact h_18 q.2, rfl, rfl⟩⟩
set_option maxRecDepth 4000 in
theorem c_M_stick {G : g_G} (l : Launch) (V : g_V) (S : g_L) (hO : M_OK V) (x : Int32) : g_C G l y_M_stick b_M_stick 2 (some .int) 3 [.ref (g_a G (201)), .int (x)] V S (fun r V' S' => S' = S ∧ ((¬ q_in x (V 201 4) ∧ g_no V (-1) r V') ∨ q_in x (V 201 4) ∧ (((V 207 18).testBit (q_n x) = true ∧ g_no V (-3) r V') ∨ (¬ (V 207 18).testBit (q_n x) = true ∧ V' = g_up (g_nt V) 207 18 (V 207 18 ||| 1 <<< q_n x) ∧ r = some (.int (nI (V 207 (12 + q_n x)))))))) := by
  refine g_C.of (lv := [some (.ref (g_a G (201))), some (.int (x))]) (by decide +kernel) rfl rfl rfl (Nat.le_of_ble_eq_true rfl) ?_
  have h0 := hO.1.1
  have hn := hO.1.2.1
  have hK := hO.1.2.2.1
  have hX := hO.1.2.2.2.1
  have hA := hO.1.2.2.2.2
  have hH := hO.2.1
  have hW := hO.2.2.1
  have hsp := hO.2.2.2.1
  have hd := hO.2.2.2.2.1
  have htd := hO.2.2.2.2.2
  refine j_aload_n (i := 0) d_M_stick_0 rfl lg0 ?_
  refine j_iconstN (k := 0) d_M_stick_1 (by decide) ?_
  refine pf_M_47 d_M_stick_2 ?_
  rw [g_up_id h0]
  refine j_aload_n (i := 0) d_M_stick_5 rfl lg0 ?_
  refine j_iload_n (i := 1) d_M_stick_6 rfl lg1 ?_
  refine cl_M_115 (c_M_noFarm l V S (by omega) (x)) d_M_stick_7 rfl rfl (g_ftM (by decide)) (Nat.le_of_ble_eq_true rfl) (g_pu ?_)
  refine j_if_eqB (tgt := 15) d_M_stick_10 (by decide) (fun h_10 => ?_) (fun h_10 => ?_)
  ·
    have hxf := Classical.not_not.mp h_10
    obtain ⟨f, hf, rfl⟩ := q_in_of hxf (by omega)
    rw [q_n_nI (by omega)]
    refine j_aload_n (i := 0) d_M_stick_15 rfl lg0 ?_
    refine gf_M_25 d_M_stick_16 ?_
    refine j_bipushN (k := 18) d_M_stick_19 (by decide) ?_
    refine j_iald d_M_stick_21 gI_207 (by omega) ?_
    refine j_iload_n (i := 1) d_M_stick_22 rfl lg1 ?_
    refine cl_M_78 (c_M_has l V S (V 207 18) (f) (by omega) (by omega)) d_M_stick_23 rfl rfl (g_ftM (by decide)) (Nat.le_of_ble_eq_true rfl) (g_pu ?_)
    refine j_if_eqB (tgt := 32) d_M_stick_26 (by decide) (fun h_26 => ?_) (fun h_26 => ?_)
    ·
      refine j_aload_n (i := 0) d_M_stick_32 rfl lg0 ?_
      refine cl_M_122 (c_M_note l V S hA) d_M_stick_33 rfl rfl (g_ftM (by decide)) (Nat.le_of_ble_eq_true rfl) (g_pw ?_)
      refine j_aload_n (i := 0) d_M_stick_36 rfl lg0 ?_
      refine gf_M_25 d_M_stick_37 ?_
      refine j_bipushN (k := 18) d_M_stick_40 (by decide) ?_
      refine j_dup2 d_M_stick_42 rfl rfl ?_
      refine j_iald d_M_stick_43 gI_207 (by omega) ?_
      refine j_eqv (b := V 207 18) (by rw [g_nt_c (c := 207) (by decide) (by decide)]) ?_
      refine j_iconstN (k := 1) d_M_stick_44 (by decide) ?_
      refine j_iload_n (i := 1) d_M_stick_45 rfl lg1 ?_
      refine j_ishlN d_M_stick_46 (by omega) ?_
      refine j_iorN d_M_stick_47 ?_
      refine j_iast d_M_stick_48 gI_207 (by omega) ?_
      refine j_aload_n (i := 0) d_M_stick_49 rfl lg0 ?_
      refine gf_M_25 d_M_stick_50 ?_
      refine j_bipushN (k := 12) d_M_stick_53 (by decide) ?_
      refine j_iload_n (i := 1) d_M_stick_55 rfl lg1 ?_
      refine j_iaddN d_M_stick_56 ?_
      refine j_iald d_M_stick_57 gI_207 (by omega) ?_
      rw [show (g_up (g_nt V) 207 18 ((V 207 18) ||| (1 <<< f))) 207 (12 + f) = V 207 (12 + f) from by rw [g_upK (by omega), g_nt_c (by decide) (by decide)]]
      refine j_iret d_M_stick_58 ⟨rfl, Or.inr ⟨hxf, Or.inr ⟨h_26, rfl, rfl⟩⟩⟩
    ·
      refine j_bipush (v := -3) d_M_stick_29 (by decide) ?_
      refine j_iret d_M_stick_31 ⟨rfl, Or.inr ⟨hxf, Or.inl ⟨h_26, rfl, rfl⟩⟩⟩
  ·
    refine j_iconst (v := -1) d_M_stick_13 (by decide) ?_
    refine j_iret d_M_stick_14 ⟨rfl, Or.inl ⟨h_10, rfl, rfl⟩⟩
set_option maxRecDepth 4000 in
theorem c_M_pull {G : g_G} (l : Launch) (V : g_V) (S : g_L) (hO : M_OK V) (x y : Int32) : g_C G l y_M_pull b_M_pull 4 (some .int) 3 [.ref (g_a G (201)), .int (x), .int (y)] V S (fun r V' S' => S' = S ∧ ((¬ (q_in x (V 201 4) ∧ q_in y (V 201 4)) ∧ g_no V (-1) r V') ∨ (q_in x (V 201 4) ∧ q_in y (V 201 4)) ∧ ((¬ (V 207 18).testBit (q_n y) = true ∧ g_no V (-3) r V') ∨ ((V 207 18).testBit (q_n y) = true ∧ V' = g_up (g_up (g_nt V) 207 18 (V 207 18 &&& (63 ^^^ (1 <<< q_n y)))) 207 (12 + q_n y) (q_n x) ∧ r = some (.int (nI (V 207 (12 + q_n y)))))))) := by
  refine g_C.of (lv := [some (.ref (g_a G (201))), some (.int (x)), some (.int (y)), none]) (by decide +kernel) rfl rfl rfl (Nat.le_of_ble_eq_true rfl) ?_
  have h0 := hO.1.1
  have hn := hO.1.2.1
  have hK := hO.1.2.2.1
  have hX := hO.1.2.2.2.1
  have hA := hO.1.2.2.2.2
  have hH := hO.2.1
  have hW := hO.2.2.1
  have hsp := hO.2.2.2.1
  have hd := hO.2.2.2.2.1
  have htd := hO.2.2.2.2.2
  refine j_aload_n (i := 0) d_M_pull_0 rfl lg0 ?_
  refine j_iconstN (k := 0) d_M_pull_1 (by decide) ?_
  refine pf_M_47 d_M_pull_2 ?_
  rw [g_up_id h0]
  refine j_aload_n (i := 0) d_M_pull_5 rfl lg0 ?_
  refine j_iload_n (i := 1) d_M_pull_6 rfl lg1 ?_
  refine cl_M_115 (c_M_noFarm l V S (by omega) (x)) d_M_pull_7 rfl rfl (g_ftM (by decide)) (Nat.le_of_ble_eq_true rfl) (g_pu ?_)
  refine j_if_neB (tgt := 21) d_M_pull_10 (by decide) (fun h_10 => ?_) (fun h_10 => ?_)
  ·
    refine j_iconst (v := -1) d_M_pull_21 (by decide) ?_
    refine j_iret d_M_pull_22 ⟨rfl, Or.inl ⟨fun q => by first | exact h_10 q.1 | exact h_18 q.2, rfl, rfl⟩⟩
  ·
    refine j_aload_n (i := 0) d_M_pull_13 rfl lg0 ?_
    refine j_iload_n (i := 2) d_M_pull_14 rfl lg2 ?_
    refine cl_M_115 (c_M_noFarm l V S (by omega) (y)) d_M_pull_15 rfl rfl (g_ftM (by decide)) (Nat.le_of_ble_eq_true rfl) (g_pu ?_)
    refine j_if_eqB (tgt := 23) d_M_pull_18 (by decide) (fun h_18 => ?_) (fun h_18 => ?_)
    ·
      have hxf := Classical.not_not.mp h_10
      have hyf := Classical.not_not.mp h_18
      obtain ⟨f, hf, rfl⟩ := q_in_of hxf (by omega)
      obtain ⟨g, hg, rfl⟩ := q_in_of hyf (by omega)
      rw [q_n_nI (k := f) (by omega), q_n_nI (k := g) (by omega)]
      have hcf := hW f (by omega)
      have hhg := hH g (by omega)
      refine j_aload_n (i := 0) d_M_pull_23 rfl lg0 ?_
      refine gf_M_25 d_M_pull_24 ?_
      refine j_bipushN (k := 18) d_M_pull_27 (by decide) ?_
      refine j_iald d_M_pull_29 gI_207 (by omega) ?_
      refine j_iload_n (i := 2) d_M_pull_30 rfl lg2 ?_
      refine cl_M_78 (c_M_has l V S (V 207 18) (g) (by omega) (by omega)) d_M_pull_31 rfl rfl (g_ftM (by decide)) (Nat.le_of_ble_eq_true rfl) (g_pu ?_)
      refine j_if_neB (tgt := 40) d_M_pull_34 (by decide) (fun h_34 => ?_) (fun h_34 => ?_)
      ·
        refine j_aload_n (i := 0) d_M_pull_40 rfl lg0 ?_
        refine cl_M_122 (c_M_note l V S hA) d_M_pull_41 rfl rfl (g_ftM (by decide)) (Nat.le_of_ble_eq_true rfl) (g_pw ?_)
        refine j_aload_n (i := 0) d_M_pull_44 rfl lg0 ?_
        refine gf_M_25 d_M_pull_45 ?_
        refine j_bipushN (k := 12) d_M_pull_48 (by decide) ?_
        refine j_iload_n (i := 2) d_M_pull_50 rfl lg2 ?_
        refine j_iaddN d_M_pull_51 ?_
        refine j_iald d_M_pull_52 gI_207 (by omega) ?_
        refine j_eqv (b := V 207 (12 + g)) (by rw [g_nt_c (c := 207) (by decide) (by decide)]) ?_
        refine j_istore_n d_M_pull_53 rfl ls3i ?_
        refine j_aload_n (i := 0) d_M_pull_54 rfl lg0 ?_
        refine gf_M_25 d_M_pull_55 ?_
        refine j_bipushN (k := 18) d_M_pull_58 (by decide) ?_
        refine j_dup2 d_M_pull_60 rfl rfl ?_
        refine j_iald d_M_pull_61 gI_207 (by omega) ?_
        refine j_eqv (b := V 207 18) (by rw [g_nt_c (c := 207) (by decide) (by decide)]) ?_
        refine j_iconstN (k := 1) d_M_pull_62 (by decide) ?_
        refine j_iload_n (i := 2) d_M_pull_63 rfl lg2 ?_
        refine j_ishlN d_M_pull_64 (by omega) ?_
        refine j_iconst (v := -1) d_M_pull_65 (by decide) ?_
        refine j_ixor d_M_pull_66 ?_
        refine j_iand d_M_pull_67 ?_
        rw [g_andnot hsp (by omega)]
        refine j_iast d_M_pull_68 gI_207 (by omega) ?_
        refine j_aload_n (i := 0) d_M_pull_69 rfl lg0 ?_
        refine gf_M_25 d_M_pull_70 ?_
        refine j_bipushN (k := 12) d_M_pull_73 (by decide) ?_
        refine j_iload_n (i := 2) d_M_pull_75 rfl lg2 ?_
        refine j_iaddN d_M_pull_76 ?_
        refine j_iload_n (i := 1) d_M_pull_77 rfl lg1 ?_
        refine j_iast d_M_pull_78 gI_207 (by omega) ?_
        refine j_iload_n (i := 3) d_M_pull_79 rfl lg3 ?_
        refine j_iret d_M_pull_80 ⟨rfl, Or.inr ⟨⟨hxf, hyf⟩, Or.inr ⟨h_34, rfl, rfl⟩⟩⟩
      ·
        refine j_bipush (v := -3) d_M_pull_37 (by decide) ?_
        refine j_iret d_M_pull_39 ⟨rfl, Or.inr ⟨⟨hxf, hyf⟩, Or.inl ⟨h_34, rfl, rfl⟩⟩⟩
    ·
      refine j_iconst (v := -1) d_M_pull_21 (by decide) ?_
      refine j_iret d_M_pull_22 ⟨rfl, Or.inl ⟨fun q => by first | exact h_10 q.1 | exact h_18 q.2, rfl, rfl⟩⟩
theorem q_rng_d {x : Int32} {n : Nat} (hn : n ≤ 6) : q_rng x.toInt64 0 (nI n - nI 2).toInt64 ↔ q_in x n ∧ q_n x + 1 < n := by
  have h : (nI n - nI 2).toInt = (n : Int) - 2 := g_subI (by omega) (by decide)
  unfold q_rng q_in q_n
  rw [Int64.le_iff_toInt_le, Int64.le_iff_toInt_le, Int64.toInt_zero, Int32.toInt_toInt64, Int32.toInt_toInt64, h]
  omega
theorem g_bitof {d f : Nat} : ((d >>> f) &&& 1) = g_z (decide (d.testBit f = true)) := by
  rw [q_and1]
  by_cases h : d.testBit f = true
  · rw [if_pos h, decide_eq_true h]; rfl
  · rw [if_neg h, decide_eq_false h]; rfl
set_option maxRecDepth 4000 in
theorem c_M_dam {G : g_G} (l : Launch) (V : g_V) (S : g_L) (hO : M_OK V) (x : Int32) : g_C G l y_M_dam b_M_dam 2 (some .int) 2 [.ref (g_a G (201)), .int (x)] V S (fun r V' S' => S' = S ∧ ((¬ (q_in x (V 201 4) ∧ q_n x + 1 < V 201 4) ∧ g_no V (-1) r V') ∨ (q_in x (V 201 4) ∧ q_n x + 1 < V 201 4) ∧ V' = g_up (g_nt V) 207 19 (V 207 19 ^^^ 1 <<< q_n x) ∧ r = some (.int (nI (g_z (decide ((V 207 19 ^^^ 1 <<< q_n x).testBit (q_n x) = true))))))) := by
  refine g_C.of (lv := [some (.ref (g_a G (201))), some (.int (x))]) (by decide +kernel) rfl rfl rfl (Nat.le_of_ble_eq_true rfl) ?_
  have h0 := hO.1.1
  have hn := hO.1.2.1
  have hK := hO.1.2.2.1
  have hX := hO.1.2.2.2.1
  have hA := hO.1.2.2.2.2
  have hH := hO.2.1
  have hW := hO.2.2.1
  have hsp := hO.2.2.2.1
  have hd := hO.2.2.2.2.1
  have htd := hO.2.2.2.2.2
  refine j_aload_n (i := 0) d_M_dam_0 rfl lg0 ?_
  refine j_iconstN (k := 0) d_M_dam_1 (by decide) ?_
  refine pf_M_47 d_M_dam_2 ?_
  rw [g_up_id h0]
  refine j_iload_n (i := 1) d_M_dam_5 rfl lg1 ?_
  refine j_i2l d_M_dam_6 ?_
  refine j_lconst (v := 0) d_M_dam_7 rfl ?_
  refine j_aload_n (i := 0) d_M_dam_8 rfl lg0 ?_
  refine gf_M_51 d_M_dam_9 ?_
  refine j_iconstN (k := 2) d_M_dam_12 (by decide) ?_
  refine j_isub d_M_dam_13 ?_
  refine j_i2l d_M_dam_14 ?_
  refine cl_M_54 (c_M_in l V S ((x).toInt64) (0) (((nI (V 201 4)) - (nI (2))).toInt64)) d_M_dam_15 rfl rfl (g_ftM (by decide)) (Nat.le_of_ble_eq_true rfl) (g_pu ?_)
  refine j_if_neB (tgt := 23) d_M_dam_18 (by decide) (fun h_18 => ?_) (fun h_18 => ?_)
  ·
    have hxd := (q_rng_d hn).mp h_18
    obtain ⟨hxf, hxl⟩ := hxd
    obtain ⟨f, hf, rfl⟩ := q_in_of hxf (by omega)
    rw [q_n_nI (by omega)] at hxl ⊢
    have hx6 : V 207 19 ^^^ 1 <<< f < 2 ^ 6 := Nat.xor_lt_two_pow hd (q_bit_lt (by omega))
    refine j_aload_n (i := 0) d_M_dam_23 rfl lg0 ?_
    refine cl_M_122 (c_M_note l V S hA) d_M_dam_24 rfl rfl (g_ftM (by decide)) (Nat.le_of_ble_eq_true rfl) (g_pw ?_)
    refine j_aload_n (i := 0) d_M_dam_27 rfl lg0 ?_
    refine gf_M_25 d_M_dam_28 ?_
    refine j_bipushN (k := 19) d_M_dam_31 (by decide) ?_
    refine j_dup2 d_M_dam_33 rfl rfl ?_
    refine j_iald d_M_dam_34 gI_207 (by omega) ?_
    refine j_eqv (b := V 207 19) (by rw [g_nt_c (c := 207) (by decide) (by decide)]) ?_
    refine j_iconstN (k := 1) d_M_dam_35 (by decide) ?_
    refine j_iload_n (i := 1) d_M_dam_36 rfl lg1 ?_
    refine j_ishlN d_M_dam_37 (by omega) ?_
    refine j_ixorN d_M_dam_38 ?_
    refine j_iast d_M_dam_39 gI_207 (by omega) ?_
    refine j_aload_n (i := 0) d_M_dam_40 rfl lg0 ?_
    refine gf_M_25 d_M_dam_41 ?_
    refine j_bipushN (k := 19) d_M_dam_44 (by decide) ?_
    refine j_iald d_M_dam_46 gI_207 (by omega) ?_
    refine j_eqv (b := (V 207 19) ^^^ (1 <<< f)) (by rw [g_upS]) ?_
    refine j_iload_n (i := 1) d_M_dam_47 rfl lg1 ?_
    refine j_ishrN d_M_dam_48 (by omega) (by omega) ?_
    refine j_iconstN (k := 1) d_M_dam_49 (by decide) ?_
    refine j_iandN d_M_dam_50 ?_
    refine j_iret d_M_dam_51 ⟨rfl, Or.inr ⟨⟨hxf, hxl⟩, rfl, by rw [g_bitof]⟩⟩
  ·
    refine j_iconst (v := -1) d_M_dam_21 (by decide) ?_
    refine j_iret d_M_dam_22 ⟨rfl, Or.inl ⟨fun q => h_18 ((q_rng_d hn).mpr q), rfl, rfl⟩⟩
set_option maxRecDepth 4000 in
theorem c_M_seed {G : g_G} (l : Launch) (V : g_V) (S : g_L) (h0 : V 201 0 = 0) (v : Int64) : g_C G l y_M_seed b_M_seed 5 (some .long) 1 [.ref (g_a G (201)), .long (v)] V S (fun r V' S' => r = some (.long (S 201)) ∧ V' = V ∧ S' = g_upL S 201 v) := by
  refine g_C.of (lv := [some (.ref (g_a G (201))), some (.long (v)), none, none, none]) (by decide +kernel) rfl rfl rfl (Nat.le_of_ble_eq_true rfl) ?_
  refine j_aload_n (i := 0) d_M_seed_0 rfl lg0 ?_
  refine j_iconstN (k := 0) d_M_seed_1 (by decide) ?_
  refine pf_M_47 d_M_seed_2 ?_
  rw [g_up_id h0]
  refine j_aload_n (i := 0) d_M_seed_5 rfl lg0 ?_
  refine gf_M_205 d_M_seed_6 ?_
  refine j_lstore_n d_M_seed_9 rfl lt3n ?_
  refine j_aload_n (i := 0) d_M_seed_10 rfl lg0 ?_
  refine j_lload_n (i := 1) d_M_seed_11 rfl lg1 ?_
  refine pf_M_205 d_M_seed_12 ?_
  refine j_lload_n (i := 3) d_M_seed_15 rfl lg3 ?_
  refine j_lret d_M_seed_16 ⟨rfl, rfl, rfl⟩
/-- the page as row c says from place o on -/
def g_tk (V : g_V) (c o : Nat) : g_V := g_pra V 207 (fun k => V c (o + k)) 0 57
set_option maxRecDepth 4000 in
theorem lp_M_undo {G : g_G} (l : Launch) (V : g_V) (S : g_L) (P : Option Value → g_V → g_L → Prop) (hp : P (some (.int (nI (V 201 14)))) (g_tk V 209 (57 * V 201 14)) S) (hA : V 201 14 < 14) : ∀ (n : Nat) (i : Nat), (i ≤ 57) → 57 - i < n → JW G (g_M G l 1 (some .int) (P)) b_M_undo R_M 27 [some (.ref (g_a G (201))), some (.int (nI (i)))] [] (g_pra V 207 (fun k => V 209 (57 * V 201 14 + k)) 0 i) S := by
  intro n
  induction n with
  | zero => intro i hi hm; exact absurd hm (Nat.not_lt_zero _)
  | succ n ih =>
    intro i hi hm
    have e14 : (g_pra V 207 (fun k => V 209 (57 * V 201 14 + k)) 0 i) 201 = V 201 := g_pra_N (by decide)
    have e209 : (g_pra V 207 (fun k => V 209 (57 * V 201 14 + k)) 0 i) 209 = V 209 := g_pra_N (by decide)
    refine j_iload_n (i := 1) d_M_undo_27 rfl lg1 ?_
    refine j_bipushN (k := 57) d_M_undo_28 (by decide) ?_
    refine j_icmp_geN (tgt := 59) d_M_undo_30 (by decide) (by omega) (by omega) (fun h_30 => ?_) (fun h_30 => ?_)
    ·
      refine j_aload_n (i := 0) d_M_undo_59 rfl lg0 ?_
      refine gf_M_98 d_M_undo_60 ?_
      rw [e14]
      have hi57 : i = 57 := by omega
      rw [hi57]
      refine j_iret d_M_undo_63 (hp)
    ·
      refine j_aload_n (i := 0) d_M_undo_33 rfl lg0 ?_
      refine gf_M_25 d_M_undo_34 ?_
      refine j_iload_n (i := 1) d_M_undo_37 rfl lg1 ?_
      refine j_aload_n (i := 0) d_M_undo_38 rfl lg0 ?_
      refine gf_M_31 d_M_undo_39 ?_
      refine j_bipushN (k := 57) d_M_undo_42 (by decide) ?_
      refine j_aload_n (i := 0) d_M_undo_44 rfl lg0 ?_
      refine gf_M_98 d_M_undo_45 ?_
      rw [e14]
      refine j_imulN d_M_undo_48 ?_
      refine j_iload_n (i := 1) d_M_undo_49 rfl lg1 ?_
      refine j_iaddN d_M_undo_50 ?_
      refine j_iald d_M_undo_51 gI_209 (by omega) ?_
      rw [e209]
      refine j_iast d_M_undo_52 gI_207 (by omega) ?_
      refine j_iincN (k := 1) d_M_undo_53 lg1 (by decide) ls1r ?_
      refine j_goto (tgt := 27) d_M_undo_56 (by decide) ?_
      rw [g_pra_step0 (f := fun k => V 209 (57 * V 201 14 + k))]
      exact ih (i + 1) (by omega) (by omega)
set_option maxRecDepth 4000 in
theorem c_M_undo {G : g_G} (l : Launch) (V : g_V) (S : g_L) (hO : M_OK V) : g_C G l y_M_undo b_M_undo 2 (some .int) 1 [.ref (g_a G (201))] V S (fun r V' S' => S' = S ∧ ((V 201 14 = 0 ∧ g_no V (-3) r V') ∨ (1 ≤ V 201 14 ∧ r = some (.int (nI (V 201 14 - 1))) ∧ V' = g_tk (g_up V 201 14 (V 201 14 - 1)) 209 (57 * (V 201 14 - 1))))) := by
  refine g_C.of (lv := [some (.ref (g_a G (201))), none]) (by decide +kernel) rfl rfl rfl (Nat.le_of_ble_eq_true rfl) ?_
  have h0 := hO.1.1
  have hn := hO.1.2.1
  have hK := hO.1.2.2.1
  have hX := hO.1.2.2.2.1
  have hA := hO.1.2.2.2.2
  have hH := hO.2.1
  have hW := hO.2.2.1
  have hsp := hO.2.2.2.1
  have hd := hO.2.2.2.2.1
  have htd := hO.2.2.2.2.2
  refine j_aload_n (i := 0) d_M_undo_0 rfl lg0 ?_
  refine j_iconstN (k := 0) d_M_undo_1 (by decide) ?_
  refine pf_M_47 d_M_undo_2 ?_
  rw [g_up_id h0]
  refine j_aload_n (i := 0) d_M_undo_5 rfl lg0 ?_
  refine gf_M_98 d_M_undo_6 ?_
  refine j_if_neN (tgt := 15) d_M_undo_9 (by decide) (by omega) (fun h_9 => ?_) (fun h_9 => ?_)
  ·
    refine j_aload_n (i := 0) d_M_undo_15 rfl lg0 ?_
    refine j_dup d_M_undo_16 rfl ?_
    refine gf_M_98 d_M_undo_17 ?_
    refine j_iconstN (k := 1) d_M_undo_20 (by decide) ?_
    refine j_isubN d_M_undo_21 (by omega) ?_
    refine pf_M_98 d_M_undo_22 ?_
    refine j_iconstN (k := 0) d_M_undo_25 (by decide) ?_
    refine j_istore_n d_M_undo_26 rfl ls1r ?_
    have h := lp_M_undo (G := G) l (g_up V 201 14 (V 201 14 - 1)) S (fun r V' S' => S' = S ∧ ((V 201 14 = 0 ∧ g_no V (-3) r V') ∨ (1 ≤ V 201 14 ∧ r = some (.int (nI (V 201 14 - 1))) ∧ V' = g_tk (g_up V 201 14 (V 201 14 - 1)) 209 (57 * (V 201 14 - 1))))) (⟨rfl, Or.inr ⟨by omega, by rw [g_upS], by rw [g_upS]⟩⟩) (by rw [g_upS]; omega) _ 0 (by omega) (Nat.lt_succ_self _)
    rw [g_pra_0] at h
    exact h
  ·
    refine j_bipush (v := -3) d_M_undo_12 (by decide) ?_
    refine j_iret d_M_undo_14 ⟨rfl, Or.inl ⟨h_9, rfl, rfl⟩⟩
set_option maxRecDepth 4000 in
theorem lp_M_keep {G : g_G} (l : Launch) (V : g_V) (S : g_L) (P : Option Value → g_V → g_L → Prop) (x : Nat) (hx : x < 2) (hp : P (some (.int (nI (V 207 20)))) (g_pra V 210 (V 207) (57 * x) 57) S) : ∀ (n : Nat) (i : Nat), (i ≤ 57) → 57 - i < n → JW G (g_M G l 2 (some .int) (P)) b_M_keep R_M 26 [some (.ref (g_a G (201))), some (.int (nI (x))), some (.int (nI (i)))] [] (g_pra V 210 (V 207) (57 * x) i) S := by
  intro n
  induction n with
  | zero => intro i hi hm; exact absurd hm (Nat.not_lt_zero _)
  | succ n ih =>
    intro i hi hm
    have e207 : (g_pra V 210 (V 207) (57 * x) i) 207 = V 207 := g_pra_N (by decide)
    refine j_iload_n (i := 2) d_M_keep_26 rfl lg2 ?_
    refine j_bipushN (k := 57) d_M_keep_27 (by decide) ?_
    refine j_icmp_geN (tgt := 55) d_M_keep_29 (by decide) (by omega) (by omega) (fun h_29 => ?_) (fun h_29 => ?_)
    ·
      refine j_aload_n (i := 0) d_M_keep_55 rfl lg0 ?_
      refine gf_M_25 d_M_keep_56 ?_
      refine j_bipushN (k := 20) d_M_keep_59 (by decide) ?_
      refine j_iald d_M_keep_61 gI_207 (by omega) ?_
      rw [e207]
      have hi57 : i = 57 := by omega
      rw [hi57]
      refine j_iret d_M_keep_62 (hp)
    ·
      refine j_aload_n (i := 0) d_M_keep_32 rfl lg0 ?_
      refine gf_M_34 d_M_keep_33 ?_
      refine j_bipushN (k := 57) d_M_keep_36 (by decide) ?_
      refine j_iload_n (i := 1) d_M_keep_38 rfl lg1 ?_
      refine j_imulN d_M_keep_39 ?_
      refine j_iload_n (i := 2) d_M_keep_40 rfl lg2 ?_
      refine j_iaddN d_M_keep_41 ?_
      refine j_aload_n (i := 0) d_M_keep_42 rfl lg0 ?_
      refine gf_M_25 d_M_keep_43 ?_
      refine j_iload_n (i := 2) d_M_keep_46 rfl lg2 ?_
      refine j_iald d_M_keep_47 gI_207 (by omega) ?_
      rw [e207]
      refine j_iast d_M_keep_48 gI_210 (by omega) ?_
      refine j_iincN (k := 1) d_M_keep_49 lg2 (by decide) ls2i ?_
      refine j_goto (tgt := 26) d_M_keep_52 (by decide) ?_
      rw [g_pra_step]
      exact ih (i + 1) (by omega) (by omega)
set_option maxRecDepth 4000 in
theorem c_M_keep {G : g_G} (l : Launch) (V : g_V) (S : g_L) (hO : M_OK V) (x : Int32) : g_C G l y_M_keep b_M_keep 3 (some .int) 2 [.ref (g_a G (201)), .int (x)] V S (fun r V' S' => S' = S ∧ ((¬ q_in x 2 ∧ g_no V (-1) r V') ∨ (q_in x 2 ∧ r = some (.int (nI (V 207 20))) ∧ V' = g_pra (g_up V 211 (q_n x) 1) 210 (V 207) (57 * q_n x) 57))) := by
  refine g_C.of (lv := [some (.ref (g_a G (201))), some (.int (x)), none]) (by decide +kernel) rfl rfl rfl (Nat.le_of_ble_eq_true rfl) ?_
  have h0 := hO.1.1
  have hn := hO.1.2.1
  have hK := hO.1.2.2.1
  have hX := hO.1.2.2.2.1
  have hA := hO.1.2.2.2.2
  have hH := hO.2.1
  have hW := hO.2.2.1
  have hsp := hO.2.2.2.1
  have hd := hO.2.2.2.2.1
  have htd := hO.2.2.2.2.2
  refine j_aload_n (i := 0) d_M_keep_0 rfl lg0 ?_
  refine j_iconstN (k := 0) d_M_keep_1 (by decide) ?_
  refine pf_M_47 d_M_keep_2 ?_
  rw [g_up_id h0]
  refine j_iload_n (i := 1) d_M_keep_5 rfl lg1 ?_
  refine j_i2l d_M_keep_6 ?_
  refine j_lconst (v := 0) d_M_keep_7 rfl ?_
  refine j_lconst (v := 1) d_M_keep_8 rfl ?_
  refine cl_M_54 (c_M_in l V S ((x).toInt64) (0) (1)) d_M_keep_9 rfl rfl (g_ftM (by decide)) (Nat.le_of_ble_eq_true rfl) (g_pu ?_)
  refine j_if_neB (tgt := 17) d_M_keep_12 (by decide) (fun h_12 => ?_) (fun h_12 => ?_)
  ·
    have hx := (q_rng_in (k := 1) (by decide)).mp h_12
    obtain ⟨k, hk, rfl⟩ := q_in_of hx (by decide)
    rw [q_n_nI (by omega)]
    refine j_aload_n (i := 0) d_M_keep_17 rfl lg0 ?_
    refine gf_M_37 d_M_keep_18 ?_
    refine j_iload_n (i := 1) d_M_keep_21 rfl lg1 ?_
    refine j_iconstN (k := 1) d_M_keep_22 (by decide) ?_
    refine j_zast d_M_keep_23 (by omega) (by decide) ?_
    refine j_iconstN (k := 0) d_M_keep_24 (by decide) ?_
    refine j_istore_n d_M_keep_25 rfl ls2i ?_
    have h := lp_M_keep (G := G) l (g_up V 211 k 1) S (fun r V' S' => S' = S ∧ ((¬ q_in (nI k) 2 ∧ g_no V (-1) r V') ∨ (q_in (nI k) 2 ∧ r = some (.int (nI (V 207 20))) ∧ V' = g_pra (g_up V 211 (k) 1) 210 (V 207) (57 * k) 57))) k hk (by rw [show g_up V 211 k 1 207 = V 207 from g_up_ne (by decide)]; exact ⟨rfl, Or.inr ⟨hx, rfl, rfl⟩⟩) _ 0 (by omega) (Nat.lt_succ_self _)
    rw [g_pra_0] at h
    exact h
  ·
    refine j_iconst (v := -1) d_M_keep_15 (by decide) ?_
    refine j_iret d_M_keep_16 ⟨rfl, Or.inl ⟨fun q => h_12 ((q_rng_in (k := 1) (by decide)).mpr q), rfl, rfl⟩⟩
set_option maxRecDepth 4000 in
theorem lp_M_again {G : g_G} (l : Launch) (V : g_V) (S : g_L) (P : Option Value → g_V → g_L → Prop) (x : Nat) (hx : x < 2) (hp : P (some (.int (nI (V 210 (57 * x + 20))))) (g_up (g_tk V 210 (57 * x)) 201 14 0) S) : ∀ (n : Nat) (i : Nat), (i ≤ 57) → 57 - i < n → JW G (g_M G l 2 (some .int) (P)) b_M_again R_M 31 [some (.ref (g_a G (201))), some (.int (nI (x))), some (.int (nI (i)))] [] (g_pra V 207 (fun k => V 210 (57 * x + k)) 0 i) S := by
  intro n
  induction n with
  | zero => intro i hi hm; exact absurd hm (Nat.not_lt_zero _)
  | succ n ih =>
    intro i hi hm
    have e210 : (g_pra V 207 (fun k => V 210 (57 * x + k)) 0 i) 210 = V 210 := g_pra_N (by decide)
    refine j_iload_n (i := 2) d_M_again_31 rfl lg2 ?_
    refine j_bipushN (k := 57) d_M_again_32 (by decide) ?_
    refine j_icmp_geN (tgt := 60) d_M_again_34 (by decide) (by omega) (by omega) (fun h_34 => ?_) (fun h_34 => ?_)
    ·
      have hi57 : i = 57 := by omega
      rw [hi57]
      refine j_aload_n (i := 0) d_M_again_60 rfl lg0 ?_
      refine j_iconstN (k := 0) d_M_again_61 (by decide) ?_
      refine pf_M_98 d_M_again_62 ?_
      refine j_aload_n (i := 0) d_M_again_65 rfl lg0 ?_
      refine gf_M_25 d_M_again_66 ?_
      refine j_bipushN (k := 20) d_M_again_69 (by decide) ?_
      refine j_iald d_M_again_71 gI_207 (by omega) ?_
      refine j_eqv (b := (g_pra V 207 (fun k => V 210 (57 * x + k)) 0 57) 207 20) (by rw [g_upN (by first | decide | omega | (unfold hB; omega))]) ?_
      rw [show g_pra V 207 (fun k => V 210 (57 * x + k)) 0 57 207 20 = V 210 (57 * x + 20) from g_pra_S0 (f := fun k => V 210 (57 * x + k)) (by decide)]
      refine j_iret d_M_again_72 (hp)
    ·
      refine j_aload_n (i := 0) d_M_again_37 rfl lg0 ?_
      refine gf_M_25 d_M_again_38 ?_
      refine j_iload_n (i := 2) d_M_again_41 rfl lg2 ?_
      refine j_aload_n (i := 0) d_M_again_42 rfl lg0 ?_
      refine gf_M_34 d_M_again_43 ?_
      refine j_bipushN (k := 57) d_M_again_46 (by decide) ?_
      refine j_iload_n (i := 1) d_M_again_48 rfl lg1 ?_
      refine j_imulN d_M_again_49 ?_
      refine j_iload_n (i := 2) d_M_again_50 rfl lg2 ?_
      refine j_iaddN d_M_again_51 ?_
      refine j_iald d_M_again_52 gI_210 (by omega) ?_
      rw [e210]
      refine j_iast d_M_again_53 gI_207 (by omega) ?_
      refine j_iincN (k := 1) d_M_again_54 lg2 (by decide) ls2i ?_
      refine j_goto (tgt := 31) d_M_again_57 (by decide) ?_
      rw [g_pra_step0 (f := fun k => V 210 (57 * x + k))]
      exact ih (i + 1) (by omega) (by omega)
set_option maxRecDepth 4000 in
theorem c_M_again {G : g_G} (l : Launch) (V : g_V) (S : g_L) (hO : M_OK V) (hk2 : ∀ k, k < 2 → V 211 k ≤ 1) (x : Int32) : g_C G l y_M_again b_M_again 3 (some .int) 2 [.ref (g_a G (201)), .int (x)] V S (fun r V' S' => S' = S ∧ ((¬ q_in x 2 ∧ g_no V (-1) r V') ∨ (q_in x 2 ∧ V 211 (q_n x) = 0 ∧ g_no V (-3) r V') ∨ (q_in x 2 ∧ ¬ V 211 (q_n x) = 0 ∧ r = some (.int (nI (V 210 (57 * q_n x + 20)))) ∧ V' = g_up (g_tk V 210 (57 * q_n x)) 201 14 0))) := by
  refine g_C.of (lv := [some (.ref (g_a G (201))), some (.int (x)), none]) (by decide +kernel) rfl rfl rfl (Nat.le_of_ble_eq_true rfl) ?_
  have h0 := hO.1.1
  have hn := hO.1.2.1
  have hK := hO.1.2.2.1
  have hX := hO.1.2.2.2.1
  have hA := hO.1.2.2.2.2
  have hH := hO.2.1
  have hW := hO.2.2.1
  have hsp := hO.2.2.2.1
  have hd := hO.2.2.2.2.1
  have htd := hO.2.2.2.2.2
  refine j_aload_n (i := 0) d_M_again_0 rfl lg0 ?_
  refine j_iconstN (k := 0) d_M_again_1 (by decide) ?_
  refine pf_M_47 d_M_again_2 ?_
  rw [g_up_id h0]
  refine j_iload_n (i := 1) d_M_again_5 rfl lg1 ?_
  refine j_i2l d_M_again_6 ?_
  refine j_lconst (v := 0) d_M_again_7 rfl ?_
  refine j_lconst (v := 1) d_M_again_8 rfl ?_
  refine cl_M_54 (c_M_in l V S ((x).toInt64) (0) (1)) d_M_again_9 rfl rfl (g_ftM (by decide)) (Nat.le_of_ble_eq_true rfl) (g_pu ?_)
  refine j_if_neB (tgt := 17) d_M_again_12 (by decide) (fun h_12 => ?_) (fun h_12 => ?_)
  ·
    have hx := (q_rng_in (k := 1) (by decide)).mp h_12
    obtain ⟨k, hk, rfl⟩ := q_in_of hx (by decide)
    rw [q_n_nI (by omega)]
    refine j_aload_n (i := 0) d_M_again_17 rfl lg0 ?_
    refine gf_M_37 d_M_again_18 ?_
    refine j_iload_n (i := 1) d_M_again_21 rfl lg1 ?_
    refine j_zald d_M_again_22 (by omega) ?_
    have hkk := hk2 k hk
    refine j_if_neN (tgt := 29) d_M_again_23 (by decide) (by omega) (fun h_23 => ?_) (fun h_23 => ?_)
    ·
      refine j_iconstN (k := 0) d_M_again_29 (by decide) ?_
      refine j_istore_n d_M_again_30 rfl ls2i ?_
      have h := lp_M_again (G := G) l V S (fun r V' S' => S' = S ∧ ((¬ q_in (nI k) 2 ∧ g_no V (-1) r V') ∨ (q_in (nI k) 2 ∧ V 211 (k) = 0 ∧ g_no V (-3) r V') ∨ (q_in (nI k) 2 ∧ ¬ V 211 (k) = 0 ∧ r = some (.int (nI (V 210 (57 * k + 20)))) ∧ V' = g_up (g_tk V 210 (57 * k)) 201 14 0))) k hk (⟨rfl, Or.inr (Or.inr ⟨hx, h_23, rfl, rfl⟩)⟩) _ 0 (by omega) (Nat.lt_succ_self _)
      rw [g_pra_0] at h
      exact h
    ·
      refine j_bipush (v := -3) d_M_again_26 (by decide) ?_
      refine j_iret d_M_again_28 ⟨rfl, Or.inr (Or.inl ⟨hx, h_23, rfl, rfl⟩)⟩
  ·
    refine j_iconst (v := -1) d_M_again_15 (by decide) ?_
    refine j_iret d_M_again_16 ⟨rfl, Or.inl ⟨fun q => h_12 ((q_rng_in (k := 1) (by decide)).mpr q), rfl, rfl⟩⟩
set_option maxRecDepth 4000 in
theorem c_M_storm {G : g_G} (l : Launch) (V : g_V) (S : g_L) (hO : M_OK V) (x : Int32) : g_C G l y_M_storm b_M_storm 2 (some .int) 4 [.ref (g_a G (201)), .int (x)] V S (fun r V' S' => S' = S ∧ ((¬ q_in x 21 ∧ g_no V (-2) r V') ∨ (q_in x 21 ∧ V' = g_go (g_nt V) 207 (q_n x) ∧ r = some (.int (nI (q_pick (g_cv V 0 1) (g_cv V 4) (q_wet (g_cv V 0 1) (g_cv V (hB 0) 5) (q_brk (g_cv V 0 1) (D_str (g_cv V)) (q_n x))))))))) := by
  refine g_C.of (lv := [some (.ref (g_a G (201))), some (.int (x))]) (by decide +kernel) rfl rfl rfl (Nat.le_of_ble_eq_true rfl) ?_
  have h0 := hO.1.1
  have hn := hO.1.2.1
  have hK := hO.1.2.2.1
  have hX := hO.1.2.2.2.1
  have hA := hO.1.2.2.2.2
  have hH := hO.2.1
  have hW := hO.2.2.1
  have hsp := hO.2.2.2.1
  have hd := hO.2.2.2.2.1
  have htd := hO.2.2.2.2.2
  refine j_aload_n (i := 0) d_M_storm_0 rfl lg0 ?_
  refine j_iconstN (k := 0) d_M_storm_1 (by decide) ?_
  refine pf_M_47 d_M_storm_2 ?_
  rw [g_up_id h0]
  refine j_iload_n (i := 1) d_M_storm_5 rfl lg1 ?_
  refine cl_M_119 (c_M_noStorm l V S (x)) d_M_storm_6 rfl rfl (g_ftM (by decide)) (Nat.le_of_ble_eq_true rfl) (g_pu ?_)
  refine j_if_eqB (tgt := 15) d_M_storm_9 (by decide) (fun h_9 => ?_) (fun h_9 => ?_)
  ·
    have hxs := Classical.not_not.mp h_9
    obtain ⟨k, hk, rfl⟩ := q_in_of hxs (by decide)
    rw [q_n_nI (by omega)]
    have hb6 := q_brk_lt (m := 6) (x := k) (s := M_str V 207) hn
    refine j_aload_n (i := 0) d_M_storm_15 rfl lg0 ?_
    refine cl_M_122 (c_M_note l V S hA) d_M_storm_16 rfl rfl (g_ftM (by decide)) (Nat.le_of_ble_eq_true rfl) (g_pw ?_)
    have n4 : g_nt V 201 4 = V 201 4 := g_nt_k (by decide)
    have n203 : g_nt V 203 = V 203 := g_nt_c (by decide) (by decide)
    have n204 : g_nt V 204 = V 204 := g_nt_c (by decide) (by decide)
    have n205 : g_nt V 205 = V 205 := g_nt_c (by decide) (by decide)
    have n207 : g_nt V 207 = V 207 := g_nt_c (by decide) (by decide)
    have nn4 : g_nt V 201 4 ≤ 6 := by rw [n4]; exact hn
    have nK : M_K (g_nt V) := by unfold M_K; rw [n203, n204, n205]; exact hK
    have nH : g_H (g_nt V) 207 := by unfold g_H; rw [n207]; exact hH
    have ns : M_str (g_nt V) 207 = M_str V 207 := M_str_eq n203 n205 n207
    have o4 : (g_go (g_nt V) 207 k) 201 4 = V 201 4 := by unfold g_go; rw [g_upN (by decide), g_upN (by decide), g_gs_N (by decide), n4]
    have o204 : (g_go (g_nt V) 207 k) 204 = V 204 := by unfold g_go; rw [g_up_ne (by decide), g_up_ne (by decide), g_gs_N (by decide), n204]
    have o19 : (g_go (g_nt V) 207 k) 207 19 = V 207 19 := by unfold g_go; rw [g_upK (by decide), g_upK (by decide), g_gs_S (by omega), n207]
    refine j_aload_n (i := 0) d_M_storm_19 rfl lg0 ?_
    refine j_aload_n (i := 0) d_M_storm_20 rfl lg0 ?_
    refine j_aload_n (i := 0) d_M_storm_21 rfl lg0 ?_
    refine gf_M_25 d_M_storm_22 ?_
    refine j_aload_n (i := 0) d_M_storm_25 rfl lg0 ?_
    refine j_aload_n (i := 0) d_M_storm_26 rfl lg0 ?_
    refine gf_M_25 d_M_storm_27 ?_
    refine j_iload_n (i := 1) d_M_storm_30 rfl lg1 ?_
    refine cl_M_125 (c_M_goStorm l (g_nt V) S nn4 nK 207 k gI_207 (by decide) (by decide) (by decide) (by decide) nH (by omega)) d_M_storm_31 rfl rfl (g_ftM (by decide)) (Nat.le_of_ble_eq_true rfl) (g_pv ?_)
    rw [n4, ns]
    refine cl_M_128 (c_M_drownsBy l (g_go (g_nt V) 207 k) S (by rw [o4]; exact hn) 207 (q_brk (V 201 4) (M_str V 207) k) gI_207 (by rw [o19]; exact hd) hb6) d_M_storm_34 rfl rfl (g_ftM (by decide)) (Nat.le_of_ble_eq_true rfl) (g_pu ?_)
    rw [o4, o19]
    refine cl_M_131 (c_M_worthOf l (g_go (g_nt V) 207 k) S (by rw [o4]; exact hn) (by rw [o204]; exact fun i hi => (hK i hi).2.1) (q_wet (V 201 4) (V 207 19) (q_brk (V 201 4) (M_str V 207) k)) (q_wet_lt hn hb6)) d_M_storm_37 rfl rfl (g_ftM (by decide)) (Nat.le_of_ble_eq_true rfl) (g_pu ?_)
    rw [o4, o204]
    refine j_iret d_M_storm_40 ⟨rfl, Or.inr ⟨hxs, rfl, rfl⟩⟩
  ·
    refine j_bipush (v := -2) d_M_storm_12 (by decide) ?_
    refine j_iret d_M_storm_14 ⟨rfl, Or.inl ⟨h_9, rfl, rfl⟩⟩
