/-! The class: its acts. -/
theorem g_pv {G : g_G} {X : g_X} {cc : ByteArray} {own : String} {pc : Nat} {lv : List (Option Value)} {st : List Value} {S : g_L} {v : Value} {V1 : g_V} (k : JW G X cc own pc lv (v :: st) V1 S) : ∀ (r : Option Value) (V' : g_V) (S' : g_L), (r = some v ∧ V' = V1 ∧ S' = S) → JW G X cc own pc lv (r.toList ++ st) V' S' := by
  rintro _ _ _ ⟨rfl, rfl, rfl⟩
  exact k
theorem g_rem.lo {V V2 : g_V} (h : g_rem V V2) {c : Nat} (h0 : c ≠ 0) (h1 : c < 25) : V2 c = V c := h.2.2 c h0 (Or.inl (by unfold hB; omega))
theorem g_rem.hi {V V2 : g_V} (h : g_rem V V2) {c : Nat} (h1 : 179 ≤ c) : V2 c = V c := h.2.2 c (by omega) (Or.inr (by
  have : g_remP V < 14 := Nat.mod_lt _ (by decide)
  unfold hB; omega))
theorem g_rem.z {V V2 : g_V} (h : g_rem V V2) (k : Nat) (h7 : k ≠ 7) (h8 : k ≠ 8) : V2 0 k = V 0 k := h.1.2.2 k h7 h8
/-- what is refused changes nothing -/
def g_no (V : g_V) (code : Int32) (r : Option Value) (V' : g_V) : Prop := r = some (.int code) ∧ V' = V
set_option maxRecDepth 4000 in
theorem c_D_carry {G : g_G} (l : Launch) (V : g_V) (S : g_L) (hO : g_OK V) (x y : Int32) : g_C G l y_D_carry b_D_carry 3 (some .int) 4 [.ref (g_a G (0)), .int (x), .int (y)] V S (fun r V' S' => S' = S ∧ ((¬ (q_in x (V 0 1) ∧ q_in y (V 0 1)) ∧ g_no V (-1) r V') ∨ (q_in x (V 0 1) ∧ q_in y (V 0 1)) ∧ ((V (hB 0 + 2) (q_n x) < 1 ∧ g_no V (-3) r V') ∨ (1 ≤ V (hB 0 + 2) (q_n x) ∧ 15 ≤ V (hB 0 + 1) (q_n y) ∧ g_no V (-4) r V') ∨ (1 ≤ V (hB 0 + 2) (q_n x) ∧ V (hB 0 + 1) (q_n y) < 15 ∧ ∃ V2, g_rem V V2 ∧ V' = g_up (g_up V2 (hB 0 + 2) (q_n x) (V (hB 0 + 2) (q_n x) - 1)) (hB 0 + 1) (q_n y) (V (hB 0 + 1) (q_n y) + 1) ∧ r = some (.int (nI (V (hB 0 + 1) (q_n y) + 1))))))) := by
  refine g_C.of (lv := [some (.ref (g_a G (0))), some (.int (x)), some (.int (y))]) (by decide +kernel) rfl rfl rfl (Nat.le_of_ble_eq_true rfl) ?_
  have hn := hO.1.1
  have hK := hO.1.2.1
  have hT := hO.1.2.2
  have hH := (hO.2.2 0 (by decide)).1
  have hW := (hO.2.2 0 (by decide)).2.1
  have hsp := (hO.2.2 0 (by decide)).2.2.1
  have hdm := (hO.2.2 0 (by decide)).2.2.2.1
  have htd := (hO.2.2 0 (by decide)).2.2.2.2
  have hF := hO.2.1.1
  have hA := hO.2.1.2.1
  have hkp := hO.2.1.2.2
  refine j_aload_n (i := 0) d_D_carry_0 rfl lg0 ?_
  refine j_iload_n (i := 1) d_D_carry_1 rfl lg1 ?_
  refine cl_D_113 (c_D_isFarm l V S (by omega) (x)) d_D_carry_2 rfl rfl (g_ftM (by decide)) (Nat.le_of_ble_eq_true rfl) (g_pu ?_)
  refine j_if_eqB (tgt := 16) d_D_carry_5 (by decide) (fun h_5 => ?_) (fun h_5 => ?_)
  ·
    refine j_iconst (v := -1) d_D_carry_16 (by decide) ?_
    refine j_iret d_D_carry_17 ⟨rfl, Or.inl ⟨fun q => by first | exact h_5 q.1 | exact h_13 q.2, rfl, rfl⟩⟩
  ·
    refine j_aload_n (i := 0) d_D_carry_8 rfl lg0 ?_
    refine j_iload_n (i := 2) d_D_carry_9 rfl lg2 ?_
    refine cl_D_113 (c_D_isFarm l V S (by omega) (y)) d_D_carry_10 rfl rfl (g_ftM (by decide)) (Nat.le_of_ble_eq_true rfl) (g_pu ?_)
    refine j_if_neB (tgt := 18) d_D_carry_13 (by decide) (fun h_13 => ?_) (fun h_13 => ?_)
    ·
      obtain ⟨f, hf, rfl⟩ := q_in_of h_5 (by omega)
      obtain ⟨g, hg, rfl⟩ := q_in_of h_13 (by omega)
      rw [q_n_nI (k := f) (by omega), q_n_nI (k := g) (by omega)]
      have hcf := hW f (by omega)
      have hhg := hH g (by omega)
      refine j_aload_n (i := 0) d_D_carry_18 rfl lg0 ?_
      refine gf_D_29 d_D_carry_19 ?_
      refine gf_D_120 (j := 0) (by decide) d_D_carry_22 ?_
      refine j_iload_n (i := 1) d_D_carry_25 rfl lg1 ?_
      refine j_iald d_D_carry_26 (gI_h2 (by decide)) (by omega) ?_
      refine j_iconstN (k := 1) d_D_carry_27 (by decide) ?_
      refine j_icmp_geN (tgt := 34) d_D_carry_28 (by decide) (by omega) (by omega) (fun h_28 => ?_) (fun h_28 => ?_)
      ·
        refine j_aload_n (i := 0) d_D_carry_34 rfl lg0 ?_
        refine gf_D_29 d_D_carry_35 ?_
        refine gf_D_117 (j := 0) (by decide) d_D_carry_38 ?_
        refine j_iload_n (i := 2) d_D_carry_41 rfl lg2 ?_
        refine j_iald d_D_carry_42 (gI_h1 (by decide)) (by omega) ?_
        refine j_bipushN (k := 15) d_D_carry_43 (by decide) ?_
        refine j_icmp_ltN (tgt := 51) d_D_carry_45 (by decide) (by omega) (by omega) (fun h_45 => ?_) (fun h_45 => ?_)
        ·
          refine j_aload_n (i := 0) d_D_carry_51 rfl lg0 ?_
          refine cl_D_137 (c_D_remember l V S hF hA) d_D_carry_52 rfl rfl (g_ftM (by decide)) (Nat.le_of_ble_eq_true rfl) ?_
          rintro _ V2 S2 ⟨rfl, hr, hs⟩
          rw [hs]
          refine j_aload_n (i := 0) d_D_carry_55 rfl lg0 ?_
          refine gf_D_29 d_D_carry_56 ?_
          refine gf_D_120 (j := 0) (by decide) d_D_carry_59 ?_
          refine j_iload_n (i := 1) d_D_carry_62 rfl lg1 ?_
          refine j_dup2 d_D_carry_63 rfl rfl ?_
          refine j_iald d_D_carry_64 (gI_h2 (by decide)) (by omega) ?_
          refine j_eqv (b := V (hB 0 + 2) f) (by rw [hr.lo (c := hB 0 + 2) (by decide) (by decide)]) ?_
          refine j_iconstN (k := 1) d_D_carry_65 (by decide) ?_
          refine j_isubN d_D_carry_66 (by omega) ?_
          refine j_iast d_D_carry_67 (gI_h2 (by decide)) (by omega) ?_
          refine j_aload_n (i := 0) d_D_carry_68 rfl lg0 ?_
          refine gf_D_29 d_D_carry_69 ?_
          refine gf_D_117 (j := 0) (by decide) d_D_carry_72 ?_
          refine j_iload_n (i := 2) d_D_carry_75 rfl lg2 ?_
          refine j_dup2 d_D_carry_76 rfl rfl ?_
          refine j_iald d_D_carry_77 (gI_h1 (by decide)) (by omega) ?_
          refine j_eqv (b := V (hB 0 + 1) g) (by rw [g_upN (by first | decide | omega | (unfold hB; omega)), hr.lo (c := hB 0 + 1) (by decide) (by decide)]) ?_
          refine j_iconstN (k := 1) d_D_carry_78 (by decide) ?_
          refine j_iaddN d_D_carry_79 ?_
          refine j_iast d_D_carry_80 (gI_h1 (by decide)) (by omega) ?_
          refine j_aload_n (i := 0) d_D_carry_81 rfl lg0 ?_
          refine gf_D_29 d_D_carry_82 ?_
          refine gf_D_117 (j := 0) (by decide) d_D_carry_85 ?_
          refine j_iload_n (i := 2) d_D_carry_88 rfl lg2 ?_
          refine j_iald d_D_carry_89 (gI_h1 (by decide)) (by omega) ?_
          refine j_eqv (b := (V (hB 0 + 1) g) + 1) (by rw [g_upS]) ?_
          refine j_iret d_D_carry_90 ⟨rfl, Or.inr ⟨⟨h_5, h_13⟩, Or.inr (Or.inr ⟨by omega, by omega, V2, hr, rfl, rfl⟩)⟩⟩
        ·
          refine j_bipush (v := -4) d_D_carry_48 (by decide) ?_
          refine j_iret d_D_carry_50 ⟨rfl, Or.inr ⟨⟨h_5, h_13⟩, Or.inr (Or.inl ⟨by omega, by omega, rfl, rfl⟩)⟩⟩
      ·
        refine j_bipush (v := -3) d_D_carry_31 (by decide) ?_
        refine j_iret d_D_carry_33 ⟨rfl, Or.inr ⟨⟨h_5, h_13⟩, Or.inl ⟨by omega, rfl, rfl⟩⟩⟩
    ·
      refine j_iconst (v := -1) d_D_carry_16 (by decide) ?_
      refine j_iret d_D_carry_17 ⟨rfl, Or.inl ⟨fun q => by first | exact h_5 q.1 | exact h_13 q.2, rfl, rfl⟩⟩
set_option maxRecDepth 4000 in
theorem c_D_lend {G : g_G} (l : Launch) (V : g_V) (S : g_L) (hO : g_OK V) (x y : Int32) : g_C G l y_D_lend b_D_lend 3 (some .int) 4 [.ref (g_a G (0)), .int (x), .int (y)] V S (fun r V' S' => S' = S ∧ ((¬ (q_in x (V 0 1) ∧ q_in y (V 0 1)) ∧ g_no V (-1) r V') ∨ (q_in x (V 0 1) ∧ q_in y (V 0 1)) ∧ ((x = y ∧ g_no V (-2) r V') ∨ (¬ x = y ∧ V (hB 0 + 2) (q_n x) < 1 ∧ g_no V (-3) r V') ∨ (¬ x = y ∧ 1 ≤ V (hB 0 + 2) (q_n x) ∧ ∃ V2, g_rem V V2 ∧ V' = g_up (g_up (g_up V2 (hB 0 + 2) (q_n x) (V (hB 0 + 2) (q_n x) - 1)) (hB 0 + 2) (q_n y) (V (hB 0 + 2) (q_n y) + 1)) (hB 0 + (5 + q_n y)) (q_n x) (D_ow V (q_n y) (q_n x) + 1) ∧ r = some (.int (nI (D_ow V (q_n y) (q_n x) + 1))))))) := by
  refine g_C.of (lv := [some (.ref (g_a G (0))), some (.int (x)), some (.int (y))]) (by decide +kernel) rfl rfl rfl (Nat.le_of_ble_eq_true rfl) ?_
  have hn := hO.1.1
  have hK := hO.1.2.1
  have hT := hO.1.2.2
  have hH := (hO.2.2 0 (by decide)).1
  have hW := (hO.2.2 0 (by decide)).2.1
  have hsp := (hO.2.2 0 (by decide)).2.2.1
  have hdm := (hO.2.2 0 (by decide)).2.2.2.1
  have htd := (hO.2.2 0 (by decide)).2.2.2.2
  have hF := hO.2.1.1
  have hA := hO.2.1.2.1
  have hkp := hO.2.1.2.2
  refine j_aload_n (i := 0) d_D_lend_0 rfl lg0 ?_
  refine j_iload_n (i := 1) d_D_lend_1 rfl lg1 ?_
  refine cl_D_113 (c_D_isFarm l V S (by omega) (x)) d_D_lend_2 rfl rfl (g_ftM (by decide)) (Nat.le_of_ble_eq_true rfl) (g_pu ?_)
  refine j_if_eqB (tgt := 16) d_D_lend_5 (by decide) (fun h_5 => ?_) (fun h_5 => ?_)
  ·
    refine j_iconst (v := -1) d_D_lend_16 (by decide) ?_
    refine j_iret d_D_lend_17 ⟨rfl, Or.inl ⟨fun q => by first | exact h_5 q.1 | exact h_13 q.2, rfl, rfl⟩⟩
  ·
    refine j_aload_n (i := 0) d_D_lend_8 rfl lg0 ?_
    refine j_iload_n (i := 2) d_D_lend_9 rfl lg2 ?_
    refine cl_D_113 (c_D_isFarm l V S (by omega) (y)) d_D_lend_10 rfl rfl (g_ftM (by decide)) (Nat.le_of_ble_eq_true rfl) (g_pu ?_)
    refine j_if_neB (tgt := 18) d_D_lend_13 (by decide) (fun h_13 => ?_) (fun h_13 => ?_)
    ·
      obtain ⟨f, hf, rfl⟩ := q_in_of h_5 (by omega)
      obtain ⟨g, hg, rfl⟩ := q_in_of h_13 (by omega)
      rw [q_n_nI (k := f) (by omega), q_n_nI (k := g) (by omega)]
      have hcf := hW f (by omega)
      have hhg := hH g (by omega)
      refine j_iload_n (i := 1) d_D_lend_18 rfl lg1 ?_
      refine j_iload_n (i := 2) d_D_lend_19 rfl lg2 ?_
      refine j_icmp_neN (tgt := 26) d_D_lend_20 (by decide) (by omega) (by omega) (fun h_20 => ?_) (fun h_20 => ?_)
      ·
        have hne : ¬ f = g := h_20
        have hxy : ¬ nI f = nI g := fun q => hne ((nI_eq (by omega) (by omega)).mp q)
        refine j_aload_n (i := 0) d_D_lend_26 rfl lg0 ?_
        refine gf_D_29 d_D_lend_27 ?_
        refine gf_D_120 (j := 0) (by decide) d_D_lend_30 ?_
        refine j_iload_n (i := 1) d_D_lend_33 rfl lg1 ?_
        refine j_iald d_D_lend_34 (gI_h2 (by decide)) (by omega) ?_
        refine j_iconstN (k := 1) d_D_lend_35 (by decide) ?_
        refine j_icmp_geN (tgt := 42) d_D_lend_36 (by decide) (by omega) (by omega) (fun h_36 => ?_) (fun h_36 => ?_)
        ·
          refine j_aload_n (i := 0) d_D_lend_42 rfl lg0 ?_
          refine cl_D_137 (c_D_remember l V S hF hA) d_D_lend_43 rfl rfl (g_ftM (by decide)) (Nat.le_of_ble_eq_true rfl) ?_
          rintro _ V2 S2 ⟨rfl, hr, hs⟩
          rw [hs]
          refine j_aload_n (i := 0) d_D_lend_46 rfl lg0 ?_
          refine gf_D_29 d_D_lend_47 ?_
          refine gf_D_120 (j := 0) (by decide) d_D_lend_50 ?_
          refine j_iload_n (i := 1) d_D_lend_53 rfl lg1 ?_
          refine j_dup2 d_D_lend_54 rfl rfl ?_
          refine j_iald d_D_lend_55 (gI_h2 (by decide)) (by omega) ?_
          refine j_eqv (b := V (hB 0 + 2) f) (by rw [hr.lo (c := hB 0 + 2) (by decide) (by decide)]) ?_
          refine j_iconstN (k := 1) d_D_lend_56 (by decide) ?_
          refine j_isubN d_D_lend_57 (by omega) ?_
          refine j_iast d_D_lend_58 (gI_h2 (by decide)) (by omega) ?_
          refine j_aload_n (i := 0) d_D_lend_59 rfl lg0 ?_
          refine gf_D_29 d_D_lend_60 ?_
          refine gf_D_120 (j := 0) (by decide) d_D_lend_63 ?_
          refine j_iload_n (i := 2) d_D_lend_66 rfl lg2 ?_
          refine j_dup2 d_D_lend_67 rfl rfl ?_
          refine j_iald d_D_lend_68 (gI_h2 (by decide)) (by omega) ?_
          rw [show (g_up V2 (hB 0 + 2) f ((V (hB 0 + 2) f) - 1)) (hB 0 + 2) g = V (hB 0 + 2) g from by rw [g_upK (fun q => hne q.symm), hr.lo (by decide) (by decide)]]
          refine j_iconstN (k := 1) d_D_lend_69 (by decide) ?_
          refine j_iaddN d_D_lend_70 ?_
          refine j_iast d_D_lend_71 (gI_h2 (by decide)) (by omega) ?_
          refine j_aload_n (i := 0) d_D_lend_72 rfl lg0 ?_
          refine gf_D_29 d_D_lend_73 ?_
          refine gf_D_130 (j := 0) (by decide) d_D_lend_76 ?_
          refine j_iload_n (i := 2) d_D_lend_79 rfl lg2 ?_
          refine j_aaldO (j := 0) d_D_lend_80 (by decide) (by omega) ?_
          refine j_iload_n (i := 1) d_D_lend_81 rfl lg1 ?_
          refine j_dup2 d_D_lend_82 rfl rfl ?_
          refine j_iald d_D_lend_83 (gI_ho (by decide) (by omega)) (by omega) ?_
          refine j_eqv (b := V (hB 0 + (5 + g)) f) (by rw [g_upN (by first | decide | omega | (unfold hB; omega)), g_upN (by first | decide | omega | (unfold hB; omega)), hr.lo (c := hB 0 + (5 + g)) (by unfold hB; omega) (by unfold hB; omega)]) ?_
          refine j_iconstN (k := 1) d_D_lend_84 (by decide) ?_
          refine j_iaddN d_D_lend_85 ?_
          refine j_iast d_D_lend_86 (gI_ho (by decide) (by omega)) (by omega) ?_
          refine j_aload_n (i := 0) d_D_lend_87 rfl lg0 ?_
          refine gf_D_29 d_D_lend_88 ?_
          refine gf_D_130 (j := 0) (by decide) d_D_lend_91 ?_
          refine j_iload_n (i := 2) d_D_lend_94 rfl lg2 ?_
          refine j_aaldO (j := 0) d_D_lend_95 (by decide) (by omega) ?_
          refine j_iload_n (i := 1) d_D_lend_96 rfl lg1 ?_
          refine j_iald d_D_lend_97 (gI_ho (by decide) (by omega)) (by omega) ?_
          refine j_eqv (b := (V (hB 0 + (5 + g)) f) + 1) (by rw [g_upS]) ?_
          refine j_iret d_D_lend_98 ⟨rfl, Or.inr ⟨⟨h_5, h_13⟩, Or.inr (Or.inr ⟨hxy, by omega, V2, hr, rfl, rfl⟩)⟩⟩
        ·
          refine j_bipush (v := -3) d_D_lend_39 (by decide) ?_
          refine j_iret d_D_lend_41 ⟨rfl, Or.inr ⟨⟨h_5, h_13⟩, Or.inr (Or.inl ⟨hxy, by omega, rfl, rfl⟩)⟩⟩
      ·
        refine j_bipush (v := -2) d_D_lend_23 (by decide) ?_
        refine j_iret d_D_lend_25 ⟨rfl, Or.inr ⟨⟨h_5, h_13⟩, Or.inl ⟨by rw [h_20], rfl, rfl⟩⟩⟩
    ·
      refine j_iconst (v := -1) d_D_lend_16 (by decide) ?_
      refine j_iret d_D_lend_17 ⟨rfl, Or.inl ⟨fun q => by first | exact h_5 q.1 | exact h_13 q.2, rfl, rfl⟩⟩
set_option maxRecDepth 4000 in
theorem c_D_stick {G : g_G} (l : Launch) (V : g_V) (S : g_L) (hO : g_OK V) (x : Int32) : g_C G l y_D_stick b_D_stick 2 (some .int) 4 [.ref (g_a G (0)), .int (x)] V S (fun r V' S' => S' = S ∧ ((¬ q_in x (V 0 1) ∧ g_no V (-1) r V') ∨ q_in x (V 0 1) ∧ (((V (hB 0) 4).testBit (q_n x) = true ∧ g_no V (-3) r V') ∨ (¬ (V (hB 0) 4).testBit (q_n x) = true ∧ ∃ V2, g_rem V V2 ∧ V' = g_up V2 (hB 0) 4 (V (hB 0) 4 ||| 1 <<< q_n x) ∧ r = some (.int (nI (V (hB 0 + 3) (q_n x)))))))) := by
  refine g_C.of (lv := [some (.ref (g_a G (0))), some (.int (x))]) (by decide +kernel) rfl rfl rfl (Nat.le_of_ble_eq_true rfl) ?_
  have hn := hO.1.1
  have hK := hO.1.2.1
  have hT := hO.1.2.2
  have hH := (hO.2.2 0 (by decide)).1
  have hW := (hO.2.2 0 (by decide)).2.1
  have hsp := (hO.2.2 0 (by decide)).2.2.1
  have hdm := (hO.2.2 0 (by decide)).2.2.2.1
  have htd := (hO.2.2 0 (by decide)).2.2.2.2
  have hF := hO.2.1.1
  have hA := hO.2.1.2.1
  have hkp := hO.2.1.2.2
  refine j_aload_n (i := 0) d_D_stick_0 rfl lg0 ?_
  refine j_iload_n (i := 1) d_D_stick_1 rfl lg1 ?_
  refine cl_D_113 (c_D_isFarm l V S (by omega) (x)) d_D_stick_2 rfl rfl (g_ftM (by decide)) (Nat.le_of_ble_eq_true rfl) (g_pu ?_)
  refine j_if_neB (tgt := 10) d_D_stick_5 (by decide) (fun h_5 => ?_) (fun h_5 => ?_)
  ·
    obtain ⟨f, hf, rfl⟩ := q_in_of h_5 (by omega)
    rw [q_n_nI (by omega)]
    refine j_aload_n (i := 0) d_D_stick_10 rfl lg0 ?_
    refine gf_D_29 d_D_stick_11 ?_
    refine gf_D_101 (j := 0) (by decide) d_D_stick_14 ?_
    refine j_iload_n (i := 1) d_D_stick_17 rfl lg1 ?_
    refine cl_D_150 (c_D_has l V S (V (hB 0) 4) (f) (by omega) (by omega)) d_D_stick_18 rfl rfl (g_ftM (by decide)) (Nat.le_of_ble_eq_true rfl) (g_pu ?_)
    refine j_if_eqB (tgt := 27) d_D_stick_21 (by decide) (fun h_21 => ?_) (fun h_21 => ?_)
    ·
      refine j_aload_n (i := 0) d_D_stick_27 rfl lg0 ?_
      refine cl_D_137 (c_D_remember l V S hF hA) d_D_stick_28 rfl rfl (g_ftM (by decide)) (Nat.le_of_ble_eq_true rfl) ?_
      rintro _ V2 S2 ⟨rfl, hr, hs⟩
      rw [hs]
      refine j_aload_n (i := 0) d_D_stick_31 rfl lg0 ?_
      refine gf_D_29 d_D_stick_32 ?_
      refine j_dup d_D_stick_35 rfl ?_
      refine gf_D_101 (j := 0) (by decide) d_D_stick_36 ?_
      refine j_eqv (b := V (hB 0) 4) (by rw [hr.lo (c := hB 0) (by decide) (by decide)]) ?_
      refine j_iload_n (i := 1) d_D_stick_39 rfl lg1 ?_
      refine cl_D_98 (c_D_bit l V2 S (f) (by omega)) d_D_stick_40 rfl rfl (g_ftM (by decide)) (Nat.le_of_ble_eq_true rfl) (g_pu ?_)
      refine j_iorN d_D_stick_43 ?_
      refine pf_D_101 (j := 0) (by decide) d_D_stick_44 ?_
      refine j_aload_n (i := 0) d_D_stick_47 rfl lg0 ?_
      refine gf_D_29 d_D_stick_48 ?_
      refine gf_D_123 (j := 0) (by decide) d_D_stick_51 ?_
      refine j_iload_n (i := 1) d_D_stick_54 rfl lg1 ?_
      refine j_iald d_D_stick_55 (gI_h3 (by decide)) (by omega) ?_
      refine j_eqv (b := V (hB 0 + 3) f) (by rw [g_upN (by first | decide | omega | (unfold hB; omega)), hr.lo (c := hB 0 + 3) (by decide) (by decide)]) ?_
      refine j_iret d_D_stick_56 ⟨rfl, Or.inr ⟨h_5, Or.inr ⟨h_21, V2, hr, rfl, rfl⟩⟩⟩
    ·
      refine j_bipush (v := -3) d_D_stick_24 (by decide) ?_
      refine j_iret d_D_stick_26 ⟨rfl, Or.inr ⟨h_5, Or.inl ⟨h_21, rfl, rfl⟩⟩⟩
  ·
    refine j_iconst (v := -1) d_D_stick_8 (by decide) ?_
    refine j_iret d_D_stick_9 ⟨rfl, Or.inl ⟨h_5, rfl, rfl⟩⟩
theorem g_andnot {a f : Nat} (ha : a < 64) (hf : f < 6) : nI a &&& (nI (1 <<< f) ^^^ (-1 : Int32)) = nI (a &&& (63 ^^^ (1 <<< f))) := by
  have h : ∀ a : Nat, a < 64 → ∀ f : Nat, f < 6 → nI a &&& (nI (1 <<< f) ^^^ (-1 : Int32)) = nI (a &&& (63 ^^^ (1 <<< f))) := by decide +kernel
  exact h a ha f hf
set_option maxRecDepth 4000 in
theorem c_D_pull {G : g_G} (l : Launch) (V : g_V) (S : g_L) (hO : g_OK V) (x y : Int32) : g_C G l y_D_pull b_D_pull 4 (some .int) 4 [.ref (g_a G (0)), .int (x), .int (y)] V S (fun r V' S' => S' = S ∧ ((¬ (q_in x (V 0 1) ∧ q_in y (V 0 1)) ∧ g_no V (-1) r V') ∨ (q_in x (V 0 1) ∧ q_in y (V 0 1)) ∧ ((¬ (V (hB 0) 4).testBit (q_n y) = true ∧ g_no V (-3) r V') ∨ ((V (hB 0) 4).testBit (q_n y) = true ∧ ∃ V2, g_rem V V2 ∧ V' = g_up (g_up V2 (hB 0) 4 (V (hB 0) 4 &&& (63 ^^^ (1 <<< q_n y)))) (hB 0 + 3) (q_n y) (q_n x) ∧ r = some (.int (nI (V (hB 0 + 3) (q_n y)))))))) := by
  refine g_C.of (lv := [some (.ref (g_a G (0))), some (.int (x)), some (.int (y)), none]) (by decide +kernel) rfl rfl rfl (Nat.le_of_ble_eq_true rfl) ?_
  have hn := hO.1.1
  have hK := hO.1.2.1
  have hT := hO.1.2.2
  have hH := (hO.2.2 0 (by decide)).1
  have hW := (hO.2.2 0 (by decide)).2.1
  have hsp := (hO.2.2 0 (by decide)).2.2.1
  have hdm := (hO.2.2 0 (by decide)).2.2.2.1
  have htd := (hO.2.2 0 (by decide)).2.2.2.2
  have hF := hO.2.1.1
  have hA := hO.2.1.2.1
  have hkp := hO.2.1.2.2
  refine j_aload_n (i := 0) d_D_pull_0 rfl lg0 ?_
  refine j_iload_n (i := 1) d_D_pull_1 rfl lg1 ?_
  refine cl_D_113 (c_D_isFarm l V S (by omega) (x)) d_D_pull_2 rfl rfl (g_ftM (by decide)) (Nat.le_of_ble_eq_true rfl) (g_pu ?_)
  refine j_if_eqB (tgt := 16) d_D_pull_5 (by decide) (fun h_5 => ?_) (fun h_5 => ?_)
  ·
    refine j_iconst (v := -1) d_D_pull_16 (by decide) ?_
    refine j_iret d_D_pull_17 ⟨rfl, Or.inl ⟨fun q => by first | exact h_5 q.1 | exact h_13 q.2, rfl, rfl⟩⟩
  ·
    refine j_aload_n (i := 0) d_D_pull_8 rfl lg0 ?_
    refine j_iload_n (i := 2) d_D_pull_9 rfl lg2 ?_
    refine cl_D_113 (c_D_isFarm l V S (by omega) (y)) d_D_pull_10 rfl rfl (g_ftM (by decide)) (Nat.le_of_ble_eq_true rfl) (g_pu ?_)
    refine j_if_neB (tgt := 18) d_D_pull_13 (by decide) (fun h_13 => ?_) (fun h_13 => ?_)
    ·
      obtain ⟨f, hf, rfl⟩ := q_in_of h_5 (by omega)
      obtain ⟨g, hg, rfl⟩ := q_in_of h_13 (by omega)
      rw [q_n_nI (k := f) (by omega), q_n_nI (k := g) (by omega)]
      have hcf := hW f (by omega)
      have hhg := hH g (by omega)
      refine j_aload_n (i := 0) d_D_pull_18 rfl lg0 ?_
      refine gf_D_29 d_D_pull_19 ?_
      refine gf_D_101 (j := 0) (by decide) d_D_pull_22 ?_
      refine j_iload_n (i := 2) d_D_pull_25 rfl lg2 ?_
      refine cl_D_150 (c_D_has l V S (V (hB 0) 4) (g) (by omega) (by omega)) d_D_pull_26 rfl rfl (g_ftM (by decide)) (Nat.le_of_ble_eq_true rfl) (g_pu ?_)
      refine j_if_neB (tgt := 35) d_D_pull_29 (by decide) (fun h_29 => ?_) (fun h_29 => ?_)
      ·
        refine j_aload_n (i := 0) d_D_pull_35 rfl lg0 ?_
        refine cl_D_137 (c_D_remember l V S hF hA) d_D_pull_36 rfl rfl (g_ftM (by decide)) (Nat.le_of_ble_eq_true rfl) ?_
        rintro _ V2 S2 ⟨rfl, hr, hs⟩
        rw [hs]
        refine j_aload_n (i := 0) d_D_pull_39 rfl lg0 ?_
        refine gf_D_29 d_D_pull_40 ?_
        refine gf_D_123 (j := 0) (by decide) d_D_pull_43 ?_
        refine j_iload_n (i := 2) d_D_pull_46 rfl lg2 ?_
        refine j_iald d_D_pull_47 (gI_h3 (by decide)) (by omega) ?_
        refine j_eqv (b := V (hB 0 + 3) g) (by rw [hr.lo (c := hB 0 + 3) (by decide) (by decide)]) ?_
        refine j_istore_n d_D_pull_48 rfl ls3i ?_
        refine j_aload_n (i := 0) d_D_pull_49 rfl lg0 ?_
        refine gf_D_29 d_D_pull_50 ?_
        refine j_dup d_D_pull_53 rfl ?_
        refine gf_D_101 (j := 0) (by decide) d_D_pull_54 ?_
        refine j_eqv (b := V (hB 0) 4) (by rw [hr.lo (c := hB 0) (by decide) (by decide)]) ?_
        refine j_iload_n (i := 2) d_D_pull_57 rfl lg2 ?_
        refine cl_D_98 (c_D_bit l V2 S (g) (by omega)) d_D_pull_58 rfl rfl (g_ftM (by decide)) (Nat.le_of_ble_eq_true rfl) (g_pu ?_)
        refine j_iconst (v := -1) d_D_pull_61 (by decide) ?_
        refine j_ixor d_D_pull_62 ?_
        refine j_iand d_D_pull_63 ?_
        rw [g_andnot hsp (by omega)]
        refine pf_D_101 (j := 0) (by decide) d_D_pull_64 ?_
        refine j_aload_n (i := 0) d_D_pull_67 rfl lg0 ?_
        refine gf_D_29 d_D_pull_68 ?_
        refine gf_D_123 (j := 0) (by decide) d_D_pull_71 ?_
        refine j_iload_n (i := 2) d_D_pull_74 rfl lg2 ?_
        refine j_iload_n (i := 1) d_D_pull_75 rfl lg1 ?_
        refine j_iast d_D_pull_76 (gI_h3 (by decide)) (by omega) ?_
        refine j_iload_n (i := 3) d_D_pull_77 rfl lg3 ?_
        refine j_iret d_D_pull_78 ⟨rfl, Or.inr ⟨⟨h_5, h_13⟩, Or.inr ⟨h_29, V2, hr, rfl, rfl⟩⟩⟩
      ·
        refine j_bipush (v := -3) d_D_pull_32 (by decide) ?_
        refine j_iret d_D_pull_34 ⟨rfl, Or.inr ⟨⟨h_5, h_13⟩, Or.inl ⟨h_29, rfl, rfl⟩⟩⟩
    ·
      refine j_iconst (v := -1) d_D_pull_16 (by decide) ?_
      refine j_iret d_D_pull_17 ⟨rfl, Or.inl ⟨fun q => by first | exact h_5 q.1 | exact h_13 q.2, rfl, rfl⟩⟩
theorem g_last {f n : Nat} (hf : f < n) (hn : n ≤ 6) : nI f = nI n - nI 1 ↔ f + 1 = n := by
  rw [nI_sub (by omega), nI_eq (by omega) (by omega)]; omega
set_option maxRecDepth 4000 in
theorem c_D_dam {G : g_G} (l : Launch) (V : g_V) (S : g_L) (hO : g_OK V) (x : Int32) : g_C G l y_D_dam b_D_dam 2 (some .int) 4 [.ref (g_a G (0)), .int (x)] V S (fun r V' S' => S' = S ∧ ((¬ (q_in x (V 0 1) ∧ q_n x + 1 < V 0 1) ∧ g_no V (-1) r V') ∨ (q_in x (V 0 1) ∧ q_n x + 1 < V 0 1) ∧ ∃ V2, g_rem V V2 ∧ V' = g_up V2 (hB 0) 5 (V (hB 0) 5 ^^^ 1 <<< q_n x) ∧ r = some (.int (nI (g_z (decide ((V (hB 0) 5 ^^^ 1 <<< q_n x).testBit (q_n x) = true))))))) := by
  refine g_C.of (lv := [some (.ref (g_a G (0))), some (.int (x))]) (by decide +kernel) rfl rfl rfl (Nat.le_of_ble_eq_true rfl) ?_
  have hn := hO.1.1
  have hK := hO.1.2.1
  have hT := hO.1.2.2
  have hH := (hO.2.2 0 (by decide)).1
  have hW := (hO.2.2 0 (by decide)).2.1
  have hsp := (hO.2.2 0 (by decide)).2.2.1
  have hdm := (hO.2.2 0 (by decide)).2.2.2.1
  have htd := (hO.2.2 0 (by decide)).2.2.2.2
  have hF := hO.2.1.1
  have hA := hO.2.1.2.1
  have hkp := hO.2.1.2.2
  refine j_aload_n (i := 0) d_D_dam_0 rfl lg0 ?_
  refine j_iload_n (i := 1) d_D_dam_1 rfl lg1 ?_
  refine cl_D_113 (c_D_isFarm l V S (by omega) (x)) d_D_dam_2 rfl rfl (g_ftM (by decide)) (Nat.le_of_ble_eq_true rfl) (g_pu ?_)
  refine j_if_eqB (tgt := 18) d_D_dam_5 (by decide) (fun h_5 => ?_) (fun h_5 => ?_)
  ·
    try rw [g_last hf hn] at h_15
    refine j_iconst (v := -1) d_D_dam_18 (by decide) ?_
    refine j_iret d_D_dam_19 ⟨rfl, Or.inl ⟨fun q => by first | exact h_5 q.1 | (have := q.2; omega), rfl, rfl⟩⟩
  ·
    obtain ⟨f, hf, rfl⟩ := q_in_of h_5 (by omega)
    rw [q_n_nI (by omega)]
    refine j_iload_n (i := 1) d_D_dam_8 rfl lg1 ?_
    refine j_aload_n (i := 0) d_D_dam_9 rfl lg0 ?_
    refine gf_D_69 d_D_dam_10 ?_
    refine j_iconstN (k := 1) d_D_dam_13 (by decide) ?_
    refine j_isub d_D_dam_14 ?_
    refine j_icmp_ne (tgt := 20) d_D_dam_15 (by decide) (fun h_15 => ?_) (fun h_15 => ?_)
    ·
      rw [g_last hf hn] at h_15
      have hx6 : V (hB 0) 5 ^^^ 1 <<< f < 2 ^ 6 := Nat.xor_lt_two_pow hdm (q_bit_lt (by omega))
      refine j_aload_n (i := 0) d_D_dam_20 rfl lg0 ?_
      refine cl_D_137 (c_D_remember l V S hF hA) d_D_dam_21 rfl rfl (g_ftM (by decide)) (Nat.le_of_ble_eq_true rfl) ?_
      rintro _ V2 S2 ⟨rfl, hr, hs⟩
      rw [hs]
      refine j_aload_n (i := 0) d_D_dam_24 rfl lg0 ?_
      refine gf_D_29 d_D_dam_25 ?_
      refine j_dup d_D_dam_28 rfl ?_
      refine gf_D_92 (j := 0) (by decide) d_D_dam_29 ?_
      refine j_eqv (b := V (hB 0) 5) (by rw [hr.lo (c := hB 0) (by decide) (by decide)]) ?_
      refine j_iload_n (i := 1) d_D_dam_32 rfl lg1 ?_
      refine cl_D_98 (c_D_bit l V2 S (f) (by omega)) d_D_dam_33 rfl rfl (g_ftM (by decide)) (Nat.le_of_ble_eq_true rfl) (g_pu ?_)
      refine j_ixorN d_D_dam_36 ?_
      refine pf_D_92 (j := 0) (by decide) d_D_dam_37 ?_
      refine j_aload_n (i := 0) d_D_dam_40 rfl lg0 ?_
      refine gf_D_29 d_D_dam_41 ?_
      refine gf_D_92 (j := 0) (by decide) d_D_dam_44 ?_
      refine j_eqv (b := (V (hB 0) 5) ^^^ (1 <<< (f))) (by rw [g_upS]) ?_
      refine j_iload_n (i := 1) d_D_dam_47 rfl lg1 ?_
      refine cl_D_150 (c_D_has l (g_up V2 (hB 0) 5 ((V (hB 0) 5) ^^^ (1 <<< (f)))) S ((V (hB 0) 5) ^^^ (1 <<< (f))) (f) (by omega) (by omega)) d_D_dam_48 rfl rfl (g_ftM (by decide)) (Nat.le_of_ble_eq_true rfl) (g_pu ?_)
      refine j_if_eqB (tgt := 58) d_D_dam_51 (by decide) (fun h_51 => ?_) (fun h_51 => ?_)
      ·
        refine j_iconstN (k := 0) d_D_dam_58 (by decide) ?_
        refine j_iret d_D_dam_59 ⟨rfl, Or.inr ⟨⟨h_5, by omega⟩, V2, hr, rfl, g_z0 h_51⟩⟩
      ·
        refine j_iconstN (k := 1) d_D_dam_54 (by decide) ?_
        refine j_goto (tgt := 59) d_D_dam_55 (by decide) ?_
        refine j_iret d_D_dam_59 ⟨rfl, Or.inr ⟨⟨h_5, by omega⟩, V2, hr, rfl, g_z1 h_51⟩⟩
    ·
      try rw [g_last hf hn] at h_15
      refine j_iconst (v := -1) d_D_dam_18 (by decide) ?_
      refine j_iret d_D_dam_19 ⟨rfl, Or.inl ⟨fun q => by first | exact h_5 q.1 | (have := q.2; omega), rfl, rfl⟩⟩
set_option maxRecDepth 4000 in
theorem c_D_undo {G : g_G} (l : Launch) (V : g_V) (S : g_L) (hO : g_OK V) : g_C G l y_D_undo b_D_undo 1 (some .int) 3 [.ref (g_a G (0))] V S (fun r V' S' => S' = S ∧ ((V 0 8 = 0 ∧ g_no V (-3) r V') ∨ (1 ≤ V 0 8 ∧ r = some (.int (nI (V 0 8 - 1))) ∧ V' 0 8 = V 0 8 - 1 ∧ (∀ k, k ≠ 8 → V' 0 k = V 0 k) ∧ g_hq V' 0 V (1 + (V 0 7 + (V 0 8 - 1)) % 14) ∧ ∀ c, c ≠ 0 → (c < hB 0 ∨ hB 0 + 11 ≤ c) → V' c = V c))) := by
  refine g_C.of (lv := [some (.ref (g_a G (0)))]) (by decide +kernel) rfl rfl rfl (Nat.le_of_ble_eq_true rfl) ?_
  have hn := hO.1.1
  have hK := hO.1.2.1
  have hT := hO.1.2.2
  have hH := (hO.2.2 0 (by decide)).1
  have hW := (hO.2.2 0 (by decide)).2.1
  have hsp := (hO.2.2 0 (by decide)).2.2.1
  have hdm := (hO.2.2 0 (by decide)).2.2.2.1
  have htd := (hO.2.2 0 (by decide)).2.2.2.2
  have hF := hO.2.1.1
  have hA := hO.2.1.2.1
  have hkp := hO.2.1.2.2
  refine j_aload_n (i := 0) d_D_undo_0 rfl lg0 ?_
  refine gf_D_72 d_D_undo_1 ?_
  refine j_iconstN (k := 1) d_D_undo_4 (by decide) ?_
  refine j_icmp_geN (tgt := 11) d_D_undo_5 (by decide) (by omega) (by omega) (fun h_5 => ?_) (fun h_5 => ?_)
  ·
    refine j_aload_n (i := 0) d_D_undo_11 rfl lg0 ?_
    refine j_dup d_D_undo_12 rfl ?_
    refine gf_D_72 d_D_undo_13 ?_
    refine j_iconstN (k := 1) d_D_undo_16 (by decide) ?_
    refine j_isubN d_D_undo_17 (by omega) ?_
    refine pf_D_72 d_D_undo_18 ?_
    refine j_aload_n (i := 0) d_D_undo_21 rfl lg0 ?_
    refine gf_D_29 d_D_undo_22 ?_
    refine j_aload_n (i := 0) d_D_undo_25 rfl lg0 ?_
    refine gf_D_33 d_D_undo_26 ?_
    refine j_aload_n (i := 0) d_D_undo_29 rfl lg0 ?_
    refine j_aload_n (i := 0) d_D_undo_30 rfl lg0 ?_
    refine gf_D_72 d_D_undo_31 ?_
    refine j_eqv (b := (V 0 8) - 1) (by rw [g_upS]) ?_
    refine cl_D_154 (c_D_actRow l (g_up V 0 8 ((V 0 8) - 1)) S (by rw [g_upK (by decide)]; exact hF) ((V 0 8) - 1) (by omega)) d_D_undo_34 rfl rfl (g_ftM (by decide)) (Nat.le_of_ble_eq_true rfl) (g_pu ?_)
    rw [show (g_up V 0 8 ((V 0 8) - 1)) 0 7 = V 0 7 from g_upK (by decide)]
    obtain ⟨P, eP⟩ : ∃ P, P = (V 0 7 + (V 0 8 - 1)) % 14 := ⟨_, rfl⟩
    have hP : P < 14 := by rw [eP]; exact Nat.mod_lt _ (by decide)
    rw [← eP]
    refine j_aald6 d_D_undo_37 (by omega) ?_
    refine cl_D_157 (j := 0) (by decide) (c_H_takeOver l (g_up V 0 8 ((V 0 8) - 1)) S 0 (1 + P) (by decide) (by omega) (by omega)) d_D_undo_38 rfl rfl (g_ftM (by decide)) (Nat.le_of_ble_eq_true rfl) ?_
    rintro _ V2 S2 ⟨rfl, hq, ho, hs⟩
    rw [hs]
    have hz : V2 0 = (g_up V 0 8 ((V 0 8) - 1)) 0 := ho 0 (Or.inl (by unfold hB; omega))
    refine j_aload_n (i := 0) d_D_undo_41 rfl lg0 ?_
    refine gf_D_72 d_D_undo_42 ?_
    rw [show V2 0 8 = V 0 8 - 1 by rw [hz, g_upS]]
    refine j_iret d_D_undo_45 ⟨rfl, Or.inr ⟨by omega, rfl, by rw [hz, g_upS], fun k hk => by rw [hz, g_upK hk], g_hq_up (fun c hc => g_up_ne hc) hq, fun c hc hh => by rw [ho c hh, g_up_ne hc]⟩⟩
  ·
    refine j_bipush (v := -3) d_D_undo_8 (by decide) ?_
    refine j_iret d_D_undo_10 ⟨rfl, Or.inl ⟨by omega, rfl, rfl⟩⟩
set_option maxRecDepth 4000 in
theorem c_D_keep {G : g_G} (l : Launch) (V : g_V) (S : g_L) (hO : g_OK V) (x : Int32) : g_C G l y_D_keep b_D_keep 2 (some .int) 3 [.ref (g_a G (0)), .int (x)] V S (fun r V' S' => S' = S ∧ ((¬ q_in x 2 ∧ g_no V (-1) r V') ∨ (q_in x 2 ∧ r = some (.int (nI (V (hB 0) 6))) ∧ V' 0 10 = V 0 10 ||| 1 <<< q_n x ∧ (∀ k, k ≠ 10 → V' 0 k = V 0 k) ∧ g_hq V' (15 + q_n x) V 0 ∧ ∀ c, c ≠ 0 → (c < hB (15 + q_n x) ∨ hB (15 + q_n x) + 11 ≤ c) → V' c = V c))) := by
  refine g_C.of (lv := [some (.ref (g_a G (0))), some (.int (x))]) (by decide +kernel) rfl rfl rfl (Nat.le_of_ble_eq_true rfl) ?_
  have hn := hO.1.1
  have hK := hO.1.2.1
  have hT := hO.1.2.2
  have hH := (hO.2.2 0 (by decide)).1
  have hW := (hO.2.2 0 (by decide)).2.1
  have hsp := (hO.2.2 0 (by decide)).2.2.1
  have hdm := (hO.2.2 0 (by decide)).2.2.2.1
  have htd := (hO.2.2 0 (by decide)).2.2.2.2
  have hF := hO.2.1.1
  have hA := hO.2.1.2.1
  have hkp := hO.2.1.2.2
  refine j_iload_n (i := 1) d_D_keep_0 rfl lg1 ?_
  refine j_if_lt (tgt := 9) d_D_keep_1 (by decide) (fun h_1 => ?_) (fun h_1 => ?_)
  ·
    refine j_iconst (v := -1) d_D_keep_9 (by decide) ?_
    refine j_iret d_D_keep_10 ⟨rfl, Or.inl ⟨fun q => by first | (rw [Int32.lt_iff_toInt_lt, Int32.toInt_zero] at h_1; have := q.1; omega) | (rw [Int32.lt_iff_toInt_lt, nI_toInt (by decide)] at h_6; have := q.2; omega), rfl, rfl⟩⟩
  ·
    refine j_iload_n (i := 1) d_D_keep_4 rfl lg1 ?_
    refine j_iconstN (k := 2) d_D_keep_5 (by decide) ?_
    refine j_icmp_lt (tgt := 11) d_D_keep_6 (by decide) (fun h_6 => ?_) (fun h_6 => ?_)
    ·
      have hx := q_in_lo' (by decide) h_1 h_6
      obtain ⟨k, hk, rfl⟩ := q_in_of hx (by decide)
      rw [q_n_nI (by omega)]
      refine j_aload_n (i := 0) d_D_keep_11 rfl lg0 ?_
      refine gf_D_37 d_D_keep_12 ?_
      refine j_iload_n (i := 1) d_D_keep_15 rfl lg1 ?_
      refine j_aald7 d_D_keep_16 (by omega) ?_
      refine j_aload_n (i := 0) d_D_keep_17 rfl lg0 ?_
      refine gf_D_29 d_D_keep_18 ?_
      refine cl_D_157 (j := (15 + (k))) (by omega) (c_H_takeOver l V S (15 + k) 0 (by omega) (by decide) (by omega)) d_D_keep_21 rfl rfl (g_ftM (by decide)) (Nat.le_of_ble_eq_true rfl) ?_
      rintro _ V2 S2 ⟨rfl, hq, ho, hs⟩
      rw [hs]
      have hz : V2 0 = V 0 := ho 0 (Or.inl (by unfold hB; omega))
      have hz14 : V2 (hB 0) = V (hB 0) := ho _ (Or.inl (by unfold hB; omega))
      refine j_aload_n (i := 0) d_D_keep_24 rfl lg0 ?_
      refine j_dup d_D_keep_25 rfl ?_
      refine gf_D_75 d_D_keep_26 ?_
      rw [show V2 0 10 = V 0 10 by rw [hz]]
      refine j_iload_n (i := 1) d_D_keep_29 rfl lg1 ?_
      refine cl_D_98 (c_D_bit l V2 S (k) (by omega)) d_D_keep_30 rfl rfl (g_ftM (by decide)) (Nat.le_of_ble_eq_true rfl) (g_pu ?_)
      refine j_iorN d_D_keep_33 ?_
      refine pf_D_75 d_D_keep_34 ?_
      refine j_aload_n (i := 0) d_D_keep_37 rfl lg0 ?_
      refine gf_D_29 d_D_keep_38 ?_
      refine gf_D_104 (j := 0) (by decide) d_D_keep_41 ?_
      refine j_eqv (b := V2 (hB 0) 6) (by rw [g_upN (by first | decide | omega | (unfold hB; omega))]) ?_
      rw [show V2 (hB 0) 6 = V (hB 0) 6 by rw [hz14]]
      refine j_iret d_D_keep_44 ⟨rfl, Or.inr ⟨hx, rfl, by rw [g_upS], fun k hk => by rw [g_upK hk, hz], ⟨fun r k a b c d => by rw [g_upN (by unfold hB; omega)]; exact hq.1 r k a b c d, by rw [g_upN (by unfold hB; omega)]; exact hq.2.1, by rw [g_upN (by unfold hB; omega)]; exact hq.2.2.1, by rw [g_upN (by unfold hB; omega)]; exact hq.2.2.2⟩, fun c hc hh => by rw [g_up_ne hc, ho c hh]⟩⟩
    ·
      refine j_iconst (v := -1) d_D_keep_9 (by decide) ?_
      refine j_iret d_D_keep_10 ⟨rfl, Or.inl ⟨fun q => by first | (rw [Int32.lt_iff_toInt_lt, Int32.toInt_zero] at h_1; have := q.1; omega) | (rw [Int32.lt_iff_toInt_lt, nI_toInt (by decide)] at h_6; have := q.2; omega), rfl, rfl⟩⟩
set_option maxRecDepth 4000 in
theorem c_D_again {G : g_G} (l : Launch) (V : g_V) (S : g_L) (hO : g_OK V) (x : Int32) : g_C G l y_D_again b_D_again 2 (some .int) 3 [.ref (g_a G (0)), .int (x)] V S (fun r V' S' => S' = S ∧ ((¬ q_in x 2 ∧ g_no V (-1) r V') ∨ (q_in x 2 ∧ ¬ (V 0 10).testBit (q_n x) = true ∧ g_no V (-3) r V') ∨ (q_in x 2 ∧ (V 0 10).testBit (q_n x) = true ∧ r = some (.int (nI (V (hB (15 + q_n x)) 6))) ∧ V' 0 8 = 0 ∧ (∀ k, k ≠ 8 → V' 0 k = V 0 k) ∧ g_hq V' 0 V (15 + q_n x) ∧ ∀ c, c ≠ 0 → (c < hB 0 ∨ hB 0 + 11 ≤ c) → V' c = V c))) := by
  refine g_C.of (lv := [some (.ref (g_a G (0))), some (.int (x))]) (by decide +kernel) rfl rfl rfl (Nat.le_of_ble_eq_true rfl) ?_
  have hn := hO.1.1
  have hK := hO.1.2.1
  have hT := hO.1.2.2
  have hH := (hO.2.2 0 (by decide)).1
  have hW := (hO.2.2 0 (by decide)).2.1
  have hsp := (hO.2.2 0 (by decide)).2.2.1
  have hdm := (hO.2.2 0 (by decide)).2.2.2.1
  have htd := (hO.2.2 0 (by decide)).2.2.2.2
  have hF := hO.2.1.1
  have hA := hO.2.1.2.1
  have hkp := hO.2.1.2.2
  refine j_iload_n (i := 1) d_D_again_0 rfl lg1 ?_
  refine j_if_lt (tgt := 9) d_D_again_1 (by decide) (fun h_1 => ?_) (fun h_1 => ?_)
  ·
    refine j_iconst (v := -1) d_D_again_9 (by decide) ?_
    refine j_iret d_D_again_10 ⟨rfl, Or.inl ⟨fun q => by first | (rw [Int32.lt_iff_toInt_lt, Int32.toInt_zero] at h_1; have := q.1; omega) | (rw [Int32.lt_iff_toInt_lt, nI_toInt (by decide)] at h_6; have := q.2; omega), rfl, rfl⟩⟩
  ·
    refine j_iload_n (i := 1) d_D_again_4 rfl lg1 ?_
    refine j_iconstN (k := 2) d_D_again_5 (by decide) ?_
    refine j_icmp_lt (tgt := 11) d_D_again_6 (by decide) (fun h_6 => ?_) (fun h_6 => ?_)
    ·
      have hx := q_in_lo' (by decide) h_1 h_6
      obtain ⟨k, hk, rfl⟩ := q_in_of hx (by decide)
      rw [q_n_nI (by omega)]
      refine j_aload_n (i := 0) d_D_again_11 rfl lg0 ?_
      refine gf_D_75 d_D_again_12 ?_
      refine j_iload_n (i := 1) d_D_again_15 rfl lg1 ?_
      refine cl_D_150 (c_D_has l V S (V 0 10) (k) (by omega) (by omega)) d_D_again_16 rfl rfl (g_ftM (by decide)) (Nat.le_of_ble_eq_true rfl) (g_pu ?_)
      refine j_if_neB (tgt := 25) d_D_again_19 (by decide) (fun h_19 => ?_) (fun h_19 => ?_)
      ·
        refine j_aload_n (i := 0) d_D_again_25 rfl lg0 ?_
        refine gf_D_29 d_D_again_26 ?_
        refine j_aload_n (i := 0) d_D_again_29 rfl lg0 ?_
        refine gf_D_37 d_D_again_30 ?_
        refine j_iload_n (i := 1) d_D_again_33 rfl lg1 ?_
        refine j_aald7 d_D_again_34 (by omega) ?_
        refine cl_D_157 (j := 0) (by decide) (c_H_takeOver l V S 0 (15 + k) (by decide) (by omega) (by omega)) d_D_again_35 rfl rfl (g_ftM (by decide)) (Nat.le_of_ble_eq_true rfl) ?_
        rintro _ V2 S2 ⟨rfl, hq, ho, hs⟩
        rw [hs]
        have hz : V2 0 = V 0 := ho 0 (Or.inl (by unfold hB; omega))
        refine j_aload_n (i := 0) d_D_again_38 rfl lg0 ?_
        refine j_iconstN (k := 0) d_D_again_39 (by decide) ?_
        refine pf_D_72 d_D_again_40 ?_
        refine j_aload_n (i := 0) d_D_again_43 rfl lg0 ?_
        refine gf_D_29 d_D_again_44 ?_
        refine gf_D_104 (j := 0) (by decide) d_D_again_47 ?_
        refine j_eqv (b := V2 (hB 0) 6) (by rw [g_upN (by first | decide | omega | (unfold hB; omega))]) ?_
        rw [hq.2.2.2]
        refine j_iret d_D_again_50 ⟨rfl, Or.inr (Or.inr ⟨hx, h_19, rfl, by rw [g_upS], fun k hk => by rw [g_upK hk, hz], ⟨fun r k a b c d => by rw [g_upN (by unfold hB; omega)]; exact hq.1 r k a b c d, by rw [g_upN (by unfold hB; omega)]; exact hq.2.1, by rw [g_upN (by unfold hB; omega)]; exact hq.2.2.1, by rw [g_upN (by unfold hB; omega)]; exact hq.2.2.2⟩, fun c hc hh => by rw [g_up_ne hc, ho c hh]⟩)⟩
      ·
        refine j_bipush (v := -3) d_D_again_22 (by decide) ?_
        refine j_iret d_D_again_24 ⟨rfl, Or.inr (Or.inl ⟨hx, h_19, rfl, rfl⟩)⟩
    ·
      refine j_iconst (v := -1) d_D_again_9 (by decide) ?_
      refine j_iret d_D_again_10 ⟨rfl, Or.inl ⟨fun q => by first | (rw [Int32.lt_iff_toInt_lt, Int32.toInt_zero] at h_1; have := q.1; omega) | (rw [Int32.lt_iff_toInt_lt, nI_toInt (by decide)] at h_6; have := q.2; omega), rfl, rfl⟩⟩
set_option maxRecDepth 4000 in
theorem c_D_storm {G : g_G} (l : Launch) (V : g_V) (S : g_L) (hO : g_OK V) (x : Int32) : g_C G l y_D_storm b_D_storm 3 (some .int) 4 [.ref (g_a G (0)), .int (x)] V S (fun r V' S' => S' = S ∧ ((¬ q_in x 21 ∧ g_no V (-2) r V') ∨ (q_in x 21 ∧ ∃ V2, g_rem V V2 ∧ V' = g_up (g_up (g_sk V2 (hB 0 + 1) (q_n x) (V 0 1)) (hB 0) 4 (V (hB 0) 4 ||| q_brk (V 0 1) (D_str V) (q_n x))) (hB 0) 6 (V (hB 0) 6 + 1) ∧ r = some (.int (nI (q_pick (V 0 1) (V 4) (q_wet (V 0 1) (V (hB 0) 5) (q_brk (V 0 1) (D_str V) (q_n x))))))))) := by
  refine g_C.of (lv := [some (.ref (g_a G (0))), some (.int (x)), none]) (by decide +kernel) rfl rfl rfl (Nat.le_of_ble_eq_true rfl) ?_
  have hn := hO.1.1
  have hK := hO.1.2.1
  have hT := hO.1.2.2
  have hH := (hO.2.2 0 (by decide)).1
  have hW := (hO.2.2 0 (by decide)).2.1
  have hsp := (hO.2.2 0 (by decide)).2.2.1
  have hdm := (hO.2.2 0 (by decide)).2.2.2.1
  have htd := (hO.2.2 0 (by decide)).2.2.2.2
  have hF := hO.2.1.1
  have hA := hO.2.1.2.1
  have hkp := hO.2.1.2.2
  refine j_iload_n (i := 1) d_D_storm_0 rfl lg1 ?_
  refine cl_D_134 (c_D_isStorm l V S (x)) d_D_storm_1 rfl rfl (g_ftM (by decide)) (Nat.le_of_ble_eq_true rfl) (g_pu ?_)
  refine j_if_neB (tgt := 10) d_D_storm_4 (by decide) (fun h_4 => ?_) (fun h_4 => ?_)
  ·
    obtain ⟨k, hk, rfl⟩ := q_in_of h_4 (by decide)
    rw [q_n_nI (by omega)]
    have hb6 := q_brk_lt (x := k) (s := D_str V) hn
    refine j_aload_n (i := 0) d_D_storm_10 rfl lg0 ?_
    refine cl_D_137 (c_D_remember l V S hF hA) d_D_storm_11 rfl rfl (g_ftM (by decide)) (Nat.le_of_ble_eq_true rfl) ?_
    rintro _ V2 S2 ⟨rfl, hr, hs⟩
    rw [hs]
    have h21 : V2 0 1 = V 0 1 := hr.z 1 (by decide) (by decide)
    have hn2 : V2 0 1 ≤ 6 := by rw [h21]; exact hn
    have h23 : V2 3 = V 3 := hr.lo (by decide) (by decide)
    have h24 : V2 4 = V 4 := hr.lo (by decide) (by decide)
    have h25 : V2 5 = V 5 := hr.lo (by decide) (by decide)
    have h215 : V2 (hB 0 + 1) = V (hB 0 + 1) := hr.lo (by decide) (by decide)
    have hK2 : g_K V2 := by unfold g_K; rw [h23, h24, h25]; exact hK
    have hH2 : g_H V2 (hB 0 + 1) := by unfold g_H; rw [h215]; exact hH
    have hbk : q_brk (V2 0 1) (D_strc V2 (hB 0 + 1)) k = q_brk (V 0 1) (D_str V) k := by
      rw [h21, show D_strc V2 (hB 0 + 1) = D_str V from funext fun i => by unfold D_strc D_str; rw [h23, h25, h215]]
    refine j_aload_n (i := 0) d_D_storm_14 rfl lg0 ?_
    refine j_aload_n (i := 0) d_D_storm_15 rfl lg0 ?_
    refine gf_D_29 d_D_storm_16 ?_
    refine gf_D_117 (j := 0) (by decide) d_D_storm_19 ?_
    refine j_iload_n (i := 1) d_D_storm_22 rfl lg1 ?_
    refine cl_D_140 (c_D_strike l V2 S hn2 hK2 (hB 0 + 1) k (gI_h1 (by decide)) (by decide) (by decide) (by decide) (by decide) hH2 (by omega)) d_D_storm_23 rfl rfl (g_ftM (by decide)) (Nat.le_of_ble_eq_true rfl) (g_pv ?_)
    rw [hbk, h21]
    refine j_istore_n d_D_storm_26 rfl ls2i ?_
    refine j_aload_n (i := 0) d_D_storm_27 rfl lg0 ?_
    refine gf_D_29 d_D_storm_28 ?_
    refine j_dup d_D_storm_31 rfl ?_
    refine gf_D_101 (j := 0) (by decide) d_D_storm_32 ?_
    refine j_eqv (b := V (hB 0) 4) (by rw [g_sk_N (c' := hB 0) (by decide), hr.lo (c := hB 0) (by decide) (by decide)]) ?_
    refine j_iload_n (i := 2) d_D_storm_35 rfl lg2 ?_
    refine j_iorN d_D_storm_36 ?_
    refine pf_D_101 (j := 0) (by decide) d_D_storm_37 ?_
    refine j_aload_n (i := 0) d_D_storm_40 rfl lg0 ?_
    refine gf_D_29 d_D_storm_41 ?_
    refine j_dup d_D_storm_44 rfl ?_
    refine gf_D_104 (j := 0) (by decide) d_D_storm_45 ?_
    refine j_eqv (b := V (hB 0) 6) (by rw [g_upK (by decide), g_sk_N (c' := hB 0) (by decide), hr.lo (c := hB 0) (by decide) (by decide)]) ?_
    refine j_iconstN (k := 1) d_D_storm_48 (by decide) ?_
    refine j_iaddN d_D_storm_49 ?_
    refine pf_D_104 (j := 0) (by decide) d_D_storm_50 ?_
    have e1 : (g_up (g_up (g_sk V2 (hB 0 + 1) k (V 0 1)) (hB 0) 4 (V (hB 0) 4 ||| q_brk (V 0 1) (D_str V) k)) (hB 0) 6 (V (hB 0) 6 + 1)) 0 1 = V 0 1 := by rw [g_upN (by decide), g_upN (by decide), g_sk_N (by decide), h21]
    have e3 : (g_up (g_up (g_sk V2 (hB 0 + 1) k (V 0 1)) (hB 0) 4 (V (hB 0) 4 ||| q_brk (V 0 1) (D_str V) k)) (hB 0) 6 (V (hB 0) 6 + 1)) 3 = V 3 := by rw [g_up_ne (by decide), g_up_ne (by decide), g_sk_N (by decide), h23]
    have e4 : (g_up (g_up (g_sk V2 (hB 0 + 1) k (V 0 1)) (hB 0) 4 (V (hB 0) 4 ||| q_brk (V 0 1) (D_str V) k)) (hB 0) 6 (V (hB 0) 6 + 1)) 4 = V 4 := by rw [g_up_ne (by decide), g_up_ne (by decide), g_sk_N (by decide), h24]
    have e5 : (g_up (g_up (g_sk V2 (hB 0 + 1) k (V 0 1)) (hB 0) 4 (V (hB 0) 4 ||| q_brk (V 0 1) (D_str V) k)) (hB 0) 6 (V (hB 0) 6 + 1)) 5 = V 5 := by rw [g_up_ne (by decide), g_up_ne (by decide), g_sk_N (by decide), h25]
    have ed : (g_up (g_up (g_sk V2 (hB 0 + 1) k (V 0 1)) (hB 0) 4 (V (hB 0) 4 ||| q_brk (V 0 1) (D_str V) k)) (hB 0) 6 (V (hB 0) 6 + 1)) (hB 0) 5 = V (hB 0) 5 := by rw [g_upK (by decide), g_upK (by decide), g_sk_N (by decide), hr.lo (by decide) (by decide)]
    have hK5 : g_K (g_up (g_up (g_sk V2 (hB 0 + 1) k (V 0 1)) (hB 0) 4 (V (hB 0) 4 ||| q_brk (V 0 1) (D_str V) k)) (hB 0) 6 (V (hB 0) 6 + 1)) := by unfold g_K; rw [e3, e4, e5]; exact hK
    refine j_aload_n (i := 0) d_D_storm_53 rfl lg0 ?_
    refine j_aload_n (i := 0) d_D_storm_54 rfl lg0 ?_
    refine j_iload_n (i := 2) d_D_storm_55 rfl lg2 ?_
    refine cl_D_144 (c_D_wetBy l (g_up (g_up (g_sk V2 (hB 0 + 1) k (V 0 1)) (hB 0) 4 ((V (hB 0) 4) ||| (q_brk (V 0 1) (D_str V) k))) (hB 0) 6 ((V (hB 0) 6) + 1)) S (by rw [e1]; exact hn) (by rw [ed]; exact hdm) (q_brk (V 0 1) (D_str V) k) hb6) d_D_storm_56 rfl rfl (g_ftM (by decide)) (Nat.le_of_ble_eq_true rfl) (g_pu ?_)
    rw [e1, ed]
    refine cl_D_147 (c_D_worthOf l (g_up (g_up (g_sk V2 (hB 0 + 1) k (V 0 1)) (hB 0) 4 ((V (hB 0) 4) ||| (q_brk (V 0 1) (D_str V) k))) (hB 0) 6 ((V (hB 0) 6) + 1)) S (by rw [e1]; exact hn) (fun i hi => (hK5 i hi).2.1) (q_wet (V 0 1) (V (hB 0) 5) (q_brk (V 0 1) (D_str V) k)) (q_wet_lt hn hb6)) d_D_storm_59 rfl rfl (g_ftM (by decide)) (Nat.le_of_ble_eq_true rfl) (g_pu ?_)
    rw [e1, e4]
    refine j_iret d_D_storm_62 ⟨rfl, Or.inr ⟨h_4, V2, hr, rfl, rfl⟩⟩
  ·
    refine j_bipush (v := -2) d_D_storm_7 (by decide) ?_
    refine j_iret d_D_storm_9 ⟨rfl, Or.inl ⟨h_4, rfl, rfl⟩⟩
