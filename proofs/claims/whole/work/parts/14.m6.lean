/-! The class: its public methods, the plain ones. -/
def q_n (x : Int32) : Nat := x.toInt.toNat
theorem q_n_nI {k : Nat} (h : k < 2 ^ 31) : q_n (nI k) = k := by unfold q_n; rw [nI_toInt h]; rfl
theorem g_nle {x y : Int32} (h : ¬ x ≤ y) : y < x := by
  rw [Int32.le_iff_toInt_le] at h
  rw [Int32.lt_iff_toInt_lt]
  omega
theorem q_in_lo {x : Int32} {n : Nat} (hn : n < 2 ^ 31) (h0 : ¬ x < 0) (h1 : x ≤ nI n) : q_in x (n + 1) := by
  rw [Int32.lt_iff_toInt_lt, Int32.toInt_zero] at h0
  rw [Int32.le_iff_toInt_le, nI_toInt hn] at h1
  exact ⟨by omega, by omega⟩
theorem q_in_lo' {x : Int32} {n : Nat} (hn : n < 2 ^ 31) (h0 : ¬ x < 0) (h1 : x < nI n) : q_in x n := by
  rw [Int32.lt_iff_toInt_lt, Int32.toInt_zero] at h0
  rw [Int32.lt_iff_toInt_lt, nI_toInt hn] at h1
  exact ⟨by omega, by omega⟩
/-- what the walks of the class stand on: t calls so far -/
def g_OK (V : g_V) : Prop :=
  (V 0 1 ≤ 6 ∧ g_K V ∧ g_T V) ∧ (V 0 7 < 14 ∧ V 0 8 ≤ 14 ∧ V 0 10 < 4) ∧
  ∀ j, j < 17 → g_H V (hB j + 1) ∧ (∀ i, i < 6 → V (hB j + 2) i ≤ 900) ∧ V (hB j) 4 < 64 ∧ V (hB j) 5 < 64 ∧ V (hB j) 6 ≤ 900
set_option maxRecDepth 4000 in
theorem c_D_wipe {G : g_G} (l : Launch) (V : g_V) (S : g_L) (hO : g_OK V) : g_C G l y_D_wipe b_D_wipe 2 (some .int) 1 [.ref (g_a G (0))] V S (fun r V' S' => r = some (.int (nI (V 1 1))) ∧ V' = g_up V 1 1 0 ∧ S' = S) := by
  refine g_C.of (lv := [some (.ref (g_a G (0))), none]) (by decide +kernel) rfl rfl rfl (Nat.le_of_ble_eq_true rfl) ?_
  refine j_aload_n (i := 0) d_D_wipe_0 rfl lg0 ?_
  refine gf_D_10 d_D_wipe_1 ?_
  refine gf_D_58 d_D_wipe_4 ?_
  refine j_istore_n d_D_wipe_7 rfl ls1r ?_
  refine j_aload_n (i := 0) d_D_wipe_8 rfl lg0 ?_
  refine gf_D_10 d_D_wipe_9 ?_
  refine j_iconstN (k := 0) d_D_wipe_12 (by decide) ?_
  refine pf_D_58 d_D_wipe_13 ?_
  refine j_iload_n (i := 1) d_D_wipe_16 rfl lg1 ?_
  refine j_iret d_D_wipe_17 ⟨rfl, rfl, rfl⟩
set_option maxRecDepth 4000 in
theorem c_D_fault {G : g_G} (l : Launch) (V : g_V) (S : g_L) (hO : g_OK V) : g_C G l y_D_fault b_D_fault 1 (some .int) 5 [.ref (g_a G (0))] V S (fun r V' S' => r = some (.int (q_an (q_fault (V 1 1) (V 2)).1)) ∧ V' = V ∧ S' = S) := by
  refine g_C.of (lv := [some (.ref (g_a G (0)))]) (by decide +kernel) rfl rfl rfl (Nat.le_of_ble_eq_true rfl) ?_
  have hn := hO.1.1
  have hK := hO.1.2.1
  have hT := hO.1.2.2
  have hH := (hO.2.2 0 (by decide)).1
  have hW := (hO.2.2 0 (by decide)).2.1
  have hsp := (hO.2.2 0 (by decide)).2.2.1
  have hdm := (hO.2.2 0 (by decide)).2.2.2.1
  have htd := (hO.2.2 0 (by decide)).2.2.2.2
  have hF := hO.2.1.1
  have hA := hO.2.1.2.1
  have hkp := hO.2.1.2.2
  refine j_aload_n (i := 0) d_D_fault_0 rfl lg0 ?_
  refine gf_D_10 d_D_fault_1 ?_
  refine cl_D_65 (c_S_firstFault l V S hT) d_D_fault_4 rfl rfl (g_ftM (by decide)) (Nat.le_of_ble_eq_true rfl) (g_pu ?_)
  refine j_iret d_D_fault_7 ⟨rfl, rfl, rfl⟩
set_option maxRecDepth 4000 in
theorem c_D_write {G : g_G} (l : Launch) (V : g_V) (S : g_L) (hO : g_OK V) (x : Int32) : g_C G l y_D_write b_D_write 2 (some .int) 1 [.ref (g_a G (0)), .int (x)] V S (fun r V' S' => S' = S ∧ ((¬ q_in x 256 ∧ r = some (.int (-2)) ∧ V' = V) ∨ (q_in x 256 ∧ 48 ≤ V 1 1 ∧ r = some (.int (-4)) ∧ V' = V) ∨ (q_in x 256 ∧ V 1 1 < 48 ∧ r = some (.int (nI (V 1 1 + 1))) ∧ V' = g_up (g_up V 2 (V 1 1) (q_n x)) 1 1 (V 1 1 + 1)))) := by
  refine g_C.of (lv := [some (.ref (g_a G (0))), some (.int (x))]) (by decide +kernel) rfl rfl rfl (Nat.le_of_ble_eq_true rfl) ?_
  have hn := hO.1.1
  have hK := hO.1.2.1
  have hT := hO.1.2.2
  have hH := (hO.2.2 0 (by decide)).1
  have hW := (hO.2.2 0 (by decide)).2.1
  have hsp := (hO.2.2 0 (by decide)).2.2.1
  have hdm := (hO.2.2 0 (by decide)).2.2.2.1
  have htd := (hO.2.2 0 (by decide)).2.2.2.2
  have hF := hO.2.1.1
  have hA := hO.2.1.2.1
  have hkp := hO.2.1.2.2
  have hl := hT.1
  refine j_iload_n (i := 1) d_D_write_0 rfl lg1 ?_
  refine j_if_lt (tgt := 11) d_D_write_1 (by decide) (fun h_1 => ?_) (fun h_1 => ?_)
  ·
    refine j_bipush (v := -2) d_D_write_11 (by decide) ?_
    refine j_iret d_D_write_13 ⟨rfl, Or.inl ⟨fun q => by first | (rw [Int32.lt_iff_toInt_lt, Int32.toInt_zero] at h_1; have := q.1; omega) | (rw [Int32.le_iff_toInt_le, nI_toInt (by decide)] at h_8; have := q.2; omega), rfl, rfl⟩⟩
  ·
    refine j_iload_n (i := 1) d_D_write_4 rfl lg1 ?_
    refine j_sipushN (k := 255) d_D_write_5 (by decide) ?_
    refine j_icmp_le (tgt := 14) d_D_write_8 (by decide) (fun h_8 => ?_) (fun h_8 => ?_)
    ·
      have hx := q_in_lo (by decide) h_1 h_8
      obtain ⟨k, hk, rfl⟩ := q_in_of hx (by decide)
      refine j_aload_n (i := 0) d_D_write_14 rfl lg0 ?_
      refine gf_D_10 d_D_write_15 ?_
      refine gf_D_58 d_D_write_18 ?_
      refine j_bipushN (k := 48) d_D_write_21 (by decide) ?_
      refine j_icmp_ltN (tgt := 29) d_D_write_23 (by decide) (by omega) (by omega) (fun h_23 => ?_) (fun h_23 => ?_)
      ·
        refine j_aload_n (i := 0) d_D_write_29 rfl lg0 ?_
        refine gf_D_10 d_D_write_30 ?_
        refine gf_D_62 d_D_write_33 ?_
        refine j_aload_n (i := 0) d_D_write_36 rfl lg0 ?_
        refine gf_D_10 d_D_write_37 ?_
        refine gf_D_58 d_D_write_40 ?_
        refine j_iload_n (i := 1) d_D_write_43 rfl lg1 ?_
        refine j_iast d_D_write_44 gI_2 (by omega) ?_
        refine j_aload_n (i := 0) d_D_write_45 rfl lg0 ?_
        refine gf_D_10 d_D_write_46 ?_
        refine j_dup d_D_write_49 rfl ?_
        refine gf_D_58 d_D_write_50 ?_
        refine j_eqv (b := V 1 1) (by rw [g_upN (by first | decide | omega | (unfold hB; omega))]) ?_
        refine j_iconstN (k := 1) d_D_write_53 (by decide) ?_
        refine j_iaddN d_D_write_54 ?_
        refine pf_D_58 d_D_write_55 ?_
        refine j_aload_n (i := 0) d_D_write_58 rfl lg0 ?_
        refine gf_D_10 d_D_write_59 ?_
        refine gf_D_58 d_D_write_62 ?_
        refine j_eqv (b := (V 1 1) + 1) (by rw [g_upS]) ?_
        refine j_iret d_D_write_65 ⟨rfl, Or.inr (Or.inr ⟨hx, by omega, rfl, by rw [q_n_nI (by omega)]⟩)⟩
      ·
        refine j_bipush (v := -4) d_D_write_26 (by decide) ?_
        refine j_iret d_D_write_28 ⟨rfl, Or.inr (Or.inl ⟨hx, by omega, rfl, rfl⟩)⟩
    ·
      refine j_bipush (v := -2) d_D_write_11 (by decide) ?_
      refine j_iret d_D_write_13 ⟨rfl, Or.inl ⟨fun q => by first | (rw [Int32.lt_iff_toInt_lt, Int32.toInt_zero] at h_1; have := q.1; omega) | (rw [Int32.le_iff_toInt_le, nI_toInt (by decide)] at h_8; have := q.2; omega), rfl, rfl⟩⟩
def D_about (V : g_V) (w : Int32) : Int32 := if w = 0 then nI (V 0 1) else if w = 1 then nI (V (hB 0) 5) else if w = 2 then nI (V (hB 0) 4) else if w = 3 then nI (V (hB 0) 6) else if w = 4 then nI (q_pick (V 0 1) (V (hB 0 + 2)) (1 <<< V 0 1 - 1)) else if w = 5 then nI (V 0 8) else if w = 6 then nI (V 1 1) else -2
set_option maxRecDepth 4000 in
theorem c_D_about {G : g_G} (l : Launch) (V : g_V) (S : g_L) (hO : g_OK V) (w : Int32) : g_C G l y_D_about b_D_about 2 (some .int) 3 [.ref (g_a G (0)), .int (w)] V S (fun r V' S' => r = some (.int (D_about V w)) ∧ V' = V ∧ S' = S) := by
  refine g_C.of (lv := [some (.ref (g_a G (0))), some (.int (w))]) (by decide +kernel) rfl rfl rfl (Nat.le_of_ble_eq_true rfl) ?_
  have hn := hO.1.1
  have hK := hO.1.2.1
  have hT := hO.1.2.2
  have hH := (hO.2.2 0 (by decide)).1
  have hW := (hO.2.2 0 (by decide)).2.1
  have hsp := (hO.2.2 0 (by decide)).2.2.1
  have hdm := (hO.2.2 0 (by decide)).2.2.2.1
  have htd := (hO.2.2 0 (by decide)).2.2.2.2
  have hF := hO.2.1.1
  have hA := hO.2.1.2.1
  have hkp := hO.2.1.2.2
  refine j_iload_n (i := 1) d_D_about_0 rfl lg1 ?_
  by_cases h_1_0 : w = 0
  ·
    refine j_tableIn (tgt := 44) d_D_about_1 (by rw [h_1_0]; decide) (by rw [h_1_0]; decide) (by rw [h_1_0]; rfl) (by decide) ?_
    refine j_aload_n (i := 0) d_D_about_44 rfl lg0 ?_
    refine gf_D_69 d_D_about_45 ?_
    refine j_iret d_D_about_48 ⟨by unfold D_about; rw [if_pos h_1_0], rfl, rfl⟩
  by_cases h_1_1 : w = 1
  ·
    refine j_tableIn (tgt := 49) d_D_about_1 (by rw [h_1_1]; decide) (by rw [h_1_1]; decide) (by rw [h_1_1]; rfl) (by decide) ?_
    refine j_aload_n (i := 0) d_D_about_49 rfl lg0 ?_
    refine gf_D_29 d_D_about_50 ?_
    refine gf_D_92 (j := 0) (by decide) d_D_about_53 ?_
    refine j_iret d_D_about_56 ⟨by unfold D_about; rw [if_neg h_1_0, if_pos h_1_1], rfl, rfl⟩
  by_cases h_1_2 : w = 2
  ·
    refine j_tableIn (tgt := 57) d_D_about_1 (by rw [h_1_2]; decide) (by rw [h_1_2]; decide) (by rw [h_1_2]; rfl) (by decide) ?_
    refine j_aload_n (i := 0) d_D_about_57 rfl lg0 ?_
    refine gf_D_29 d_D_about_58 ?_
    refine gf_D_101 (j := 0) (by decide) d_D_about_61 ?_
    refine j_iret d_D_about_64 ⟨by unfold D_about; rw [if_neg h_1_0, if_neg h_1_1, if_pos h_1_2], rfl, rfl⟩
  by_cases h_1_3 : w = 3
  ·
    refine j_tableIn (tgt := 65) d_D_about_1 (by rw [h_1_3]; decide) (by rw [h_1_3]; decide) (by rw [h_1_3]; rfl) (by decide) ?_
    refine j_aload_n (i := 0) d_D_about_65 rfl lg0 ?_
    refine gf_D_29 d_D_about_66 ?_
    refine gf_D_104 (j := 0) (by decide) d_D_about_69 ?_
    refine j_iret d_D_about_72 ⟨by unfold D_about; rw [if_neg h_1_0, if_neg h_1_1, if_neg h_1_2, if_pos h_1_3], rfl, rfl⟩
  by_cases h_1_4 : w = 4
  ·
    refine j_tableIn (tgt := 73) d_D_about_1 (by rw [h_1_4]; decide) (by rw [h_1_4]; decide) (by rw [h_1_4]; rfl) (by decide) ?_
    refine j_aload_n (i := 0) d_D_about_73 rfl lg0 ?_
    refine j_aload_n (i := 0) d_D_about_74 rfl lg0 ?_
    refine cl_D_107 (c_D_everyFarm l V S (by omega)) d_D_about_75 rfl rfl (g_ftM (by decide)) (Nat.le_of_ble_eq_true rfl) (g_pu ?_)
    refine cl_D_110 (c_D_clayOf l V S (by omega) (fun i hi => by have := hW i hi; omega) (1 <<< V 0 1 - 1) (by first | omega | (rw [Nat.one_shiftLeft]; have := Nat.pow_le_pow_right (n := 2) (j := 6) (by decide) hn; omega))) d_D_about_78 rfl rfl (g_ftM (by decide)) (Nat.le_of_ble_eq_true rfl) (g_pu ?_)
    refine j_iret d_D_about_81 ⟨by unfold D_about; rw [if_neg h_1_0, if_neg h_1_1, if_neg h_1_2, if_neg h_1_3, if_pos h_1_4], rfl, rfl⟩
  by_cases h_1_5 : w = 5
  ·
    refine j_tableIn (tgt := 82) d_D_about_1 (by rw [h_1_5]; decide) (by rw [h_1_5]; decide) (by rw [h_1_5]; rfl) (by decide) ?_
    refine j_aload_n (i := 0) d_D_about_82 rfl lg0 ?_
    refine gf_D_72 d_D_about_83 ?_
    refine j_iret d_D_about_86 ⟨by unfold D_about; rw [if_neg h_1_0, if_neg h_1_1, if_neg h_1_2, if_neg h_1_3, if_neg h_1_4, if_pos h_1_5], rfl, rfl⟩
  by_cases h_1_6 : w = 6
  ·
    refine j_tableIn (tgt := 87) d_D_about_1 (by rw [h_1_6]; decide) (by rw [h_1_6]; decide) (by rw [h_1_6]; rfl) (by decide) ?_
    refine j_aload_n (i := 0) d_D_about_87 rfl lg0 ?_
    refine gf_D_10 d_D_about_88 ?_
    refine gf_D_58 d_D_about_91 ?_
    refine j_iret d_D_about_94 ⟨by unfold D_about; rw [if_neg h_1_0, if_neg h_1_1, if_neg h_1_2, if_neg h_1_3, if_neg h_1_4, if_neg h_1_5, if_pos h_1_6], rfl, rfl⟩
  refine j_tableOut (tgt := 95) d_D_about_1 (g_sw0_6 h_1_0 h_1_1 h_1_2 h_1_3 h_1_4 h_1_5 h_1_6) (by decide) ?_
  refine j_bipush (v := -2) d_D_about_95 (by decide) ?_
  refine j_iret d_D_about_97 ⟨by unfold D_about; rw [if_neg h_1_0, if_neg h_1_1, if_neg h_1_2, if_neg h_1_3, if_neg h_1_4, if_neg h_1_5, if_neg h_1_6], rfl, rfl⟩
def D_farm (V : g_V) (f : Nat) (w : Int32) : Int32 := if w = 0 then nI (V (hB 0 + 1) f) else if w = 1 then nI (V 3 f) else if w = 2 then nI (V (hB 0 + 2) f) else if w = 3 then nI (V 4 f) else if w = 4 then nI (V 5 f) else if w = 5 then nI (V (hB 0 + 3) f) else if w = 6 then nI (D_str V f) else -2
set_option maxRecDepth 4000 in
theorem c_D_farm {G : g_G} (l : Launch) (V : g_V) (S : g_L) (hO : g_OK V) (x w : Int32) : g_C G l y_D_farm b_D_farm 3 (some .int) 2 [.ref (g_a G (0)), .int (x), .int (w)] V S (fun r V' S' => r = some (.int (if q_in x (V 0 1) then D_farm V (q_n x) w else -1)) ∧ V' = V ∧ S' = S) := by
  refine g_C.of (lv := [some (.ref (g_a G (0))), some (.int (x)), some (.int (w))]) (by decide +kernel) rfl rfl rfl (Nat.le_of_ble_eq_true rfl) ?_
  have hn := hO.1.1
  have hK := hO.1.2.1
  have hT := hO.1.2.2
  have hH := (hO.2.2 0 (by decide)).1
  have hW := (hO.2.2 0 (by decide)).2.1
  have hsp := (hO.2.2 0 (by decide)).2.2.1
  have hdm := (hO.2.2 0 (by decide)).2.2.2.1
  have htd := (hO.2.2 0 (by decide)).2.2.2.2
  have hF := hO.2.1.1
  have hA := hO.2.1.2.1
  have hkp := hO.2.1.2.2
  refine j_aload_n (i := 0) d_D_farm_0 rfl lg0 ?_
  refine j_iload_n (i := 1) d_D_farm_1 rfl lg1 ?_
  refine cl_D_113 (c_D_isFarm l V S (by omega) (x)) d_D_farm_2 rfl rfl (g_ftM (by decide)) (Nat.le_of_ble_eq_true rfl) (g_pu ?_)
  refine j_if_neB (tgt := 10) d_D_farm_5 (by decide) (fun h_5 => ?_) (fun h_5 => ?_)
  ·
    obtain ⟨f, hf, rfl⟩ := q_in_of h_5 (by omega)
    rw [if_pos h_5, q_n_nI (by omega)]
    refine j_iload_n (i := 2) d_D_farm_10 rfl lg2 ?_
    by_cases h_11_0 : w = 0
    ·
      refine j_tableIn (tgt := 52) d_D_farm_11 (by rw [h_11_0]; decide) (by rw [h_11_0]; decide) (by rw [h_11_0]; rfl) (by decide) ?_
      refine j_aload_n (i := 0) d_D_farm_52 rfl lg0 ?_
      refine gf_D_29 d_D_farm_53 ?_
      refine gf_D_117 (j := 0) (by decide) d_D_farm_56 ?_
      refine j_iload_n (i := 1) d_D_farm_59 rfl lg1 ?_
      refine j_iald d_D_farm_60 (gI_h1 (by decide)) (by omega) ?_
      refine j_iret d_D_farm_61 ⟨by unfold D_farm; rw [if_pos h_11_0], rfl, rfl⟩
    by_cases h_11_1 : w = 1
    ·
      refine j_tableIn (tgt := 62) d_D_farm_11 (by rw [h_11_1]; decide) (by rw [h_11_1]; decide) (by rw [h_11_1]; rfl) (by decide) ?_
      refine j_aload_n (i := 0) d_D_farm_62 rfl lg0 ?_
      refine gf_D_16 d_D_farm_63 ?_
      refine j_iload_n (i := 1) d_D_farm_66 rfl lg1 ?_
      refine j_iald d_D_farm_67 gI_3 (by omega) ?_
      refine j_iret d_D_farm_68 ⟨by unfold D_farm; rw [if_neg h_11_0, if_pos h_11_1], rfl, rfl⟩
    by_cases h_11_2 : w = 2
    ·
      refine j_tableIn (tgt := 69) d_D_farm_11 (by rw [h_11_2]; decide) (by rw [h_11_2]; decide) (by rw [h_11_2]; rfl) (by decide) ?_
      refine j_aload_n (i := 0) d_D_farm_69 rfl lg0 ?_
      refine gf_D_29 d_D_farm_70 ?_
      refine gf_D_120 (j := 0) (by decide) d_D_farm_73 ?_
      refine j_iload_n (i := 1) d_D_farm_76 rfl lg1 ?_
      refine j_iald d_D_farm_77 (gI_h2 (by decide)) (by omega) ?_
      refine j_iret d_D_farm_78 ⟨by unfold D_farm; rw [if_neg h_11_0, if_neg h_11_1, if_pos h_11_2], rfl, rfl⟩
    by_cases h_11_3 : w = 3
    ·
      refine j_tableIn (tgt := 79) d_D_farm_11 (by rw [h_11_3]; decide) (by rw [h_11_3]; decide) (by rw [h_11_3]; rfl) (by decide) ?_
      refine j_aload_n (i := 0) d_D_farm_79 rfl lg0 ?_
      refine gf_D_20 d_D_farm_80 ?_
      refine j_iload_n (i := 1) d_D_farm_83 rfl lg1 ?_
      refine j_iald d_D_farm_84 gI_4 (by omega) ?_
      refine j_iret d_D_farm_85 ⟨by unfold D_farm; rw [if_neg h_11_0, if_neg h_11_1, if_neg h_11_2, if_pos h_11_3], rfl, rfl⟩
    by_cases h_11_4 : w = 4
    ·
      refine j_tableIn (tgt := 86) d_D_farm_11 (by rw [h_11_4]; decide) (by rw [h_11_4]; decide) (by rw [h_11_4]; rfl) (by decide) ?_
      refine j_aload_n (i := 0) d_D_farm_86 rfl lg0 ?_
      refine gf_D_23 d_D_farm_87 ?_
      refine j_iload_n (i := 1) d_D_farm_90 rfl lg1 ?_
      refine j_iald d_D_farm_91 gI_5 (by omega) ?_
      refine j_iret d_D_farm_92 ⟨by unfold D_farm; rw [if_neg h_11_0, if_neg h_11_1, if_neg h_11_2, if_neg h_11_3, if_pos h_11_4], rfl, rfl⟩
    by_cases h_11_5 : w = 5
    ·
      refine j_tableIn (tgt := 93) d_D_farm_11 (by rw [h_11_5]; decide) (by rw [h_11_5]; decide) (by rw [h_11_5]; rfl) (by decide) ?_
      refine j_aload_n (i := 0) d_D_farm_93 rfl lg0 ?_
      refine gf_D_29 d_D_farm_94 ?_
      refine gf_D_123 (j := 0) (by decide) d_D_farm_97 ?_
      refine j_iload_n (i := 1) d_D_farm_100 rfl lg1 ?_
      refine j_iald d_D_farm_101 (gI_h3 (by decide)) (by omega) ?_
      refine j_iret d_D_farm_102 ⟨by unfold D_farm; rw [if_neg h_11_0, if_neg h_11_1, if_neg h_11_2, if_neg h_11_3, if_neg h_11_4, if_pos h_11_5], rfl, rfl⟩
    by_cases h_11_6 : w = 6
    ·
      refine j_tableIn (tgt := 103) d_D_farm_11 (by rw [h_11_6]; decide) (by rw [h_11_6]; decide) (by rw [h_11_6]; rfl) (by decide) ?_
      refine j_aload_n (i := 0) d_D_farm_103 rfl lg0 ?_
      refine j_iload_n (i := 1) d_D_farm_104 rfl lg1 ?_
      refine j_aload_n (i := 0) d_D_farm_105 rfl lg0 ?_
      refine gf_D_29 d_D_farm_106 ?_
      refine gf_D_117 (j := 0) (by decide) d_D_farm_109 ?_
      refine j_iload_n (i := 1) d_D_farm_112 rfl lg1 ?_
      refine j_iald d_D_farm_113 (gI_h1 (by decide)) (by omega) ?_
      refine cl_D_126 (c_D_strengthAt l V S (f) (V (hB 0 + 1) f) (by omega) (hK (f) (by omega)).2.2) d_D_farm_114 rfl rfl (g_ftM (by decide)) (Nat.le_of_ble_eq_true rfl) (g_pu ?_)
      refine j_iret d_D_farm_117 ⟨by unfold D_farm; rw [if_neg h_11_0, if_neg h_11_1, if_neg h_11_2, if_neg h_11_3, if_neg h_11_4, if_neg h_11_5, if_pos h_11_6]; rfl, rfl, rfl⟩
    refine j_tableOut (tgt := 118) d_D_farm_11 (g_sw0_6 h_11_0 h_11_1 h_11_2 h_11_3 h_11_4 h_11_5 h_11_6) (by decide) ?_
    refine j_bipush (v := -2) d_D_farm_118 (by decide) ?_
    refine j_iret d_D_farm_120 ⟨by unfold D_farm; rw [if_neg h_11_0, if_neg h_11_1, if_neg h_11_2, if_neg h_11_3, if_neg h_11_4, if_neg h_11_5, if_neg h_11_6], rfl, rfl⟩
  ·
    refine j_iconst (v := -1) d_D_farm_8 (by decide) ?_
    refine j_iret d_D_farm_9 ⟨by rw [if_neg h_5], rfl, rfl⟩
set_option maxRecDepth 4000 in
theorem c_D_owes {G : g_G} (l : Launch) (V : g_V) (S : g_L) (hO : g_OK V) (x y : Int32) : g_C G l y_D_owes b_D_owes 3 (some .int) 2 [.ref (g_a G (0)), .int (x), .int (y)] V S (fun r V' S' => r = some (.int (if q_in x (V 0 1) ∧ q_in y (V 0 1) then nI (D_ow V (q_n x) (q_n y)) else -1)) ∧ V' = V ∧ S' = S) := by
  refine g_C.of (lv := [some (.ref (g_a G (0))), some (.int (x)), some (.int (y))]) (by decide +kernel) rfl rfl rfl (Nat.le_of_ble_eq_true rfl) ?_
  have hn := hO.1.1
  have hK := hO.1.2.1
  have hT := hO.1.2.2
  have hH := (hO.2.2 0 (by decide)).1
  have hW := (hO.2.2 0 (by decide)).2.1
  have hsp := (hO.2.2 0 (by decide)).2.2.1
  have hdm := (hO.2.2 0 (by decide)).2.2.2.1
  have htd := (hO.2.2 0 (by decide)).2.2.2.2
  have hF := hO.2.1.1
  have hA := hO.2.1.2.1
  have hkp := hO.2.1.2.2
  refine j_aload_n (i := 0) d_D_owes_0 rfl lg0 ?_
  refine j_iload_n (i := 1) d_D_owes_1 rfl lg1 ?_
  refine cl_D_113 (c_D_isFarm l V S (by omega) (x)) d_D_owes_2 rfl rfl (g_ftM (by decide)) (Nat.le_of_ble_eq_true rfl) (g_pu ?_)
  refine j_if_eqB (tgt := 16) d_D_owes_5 (by decide) (fun h_5 => ?_) (fun h_5 => ?_)
  ·
    refine j_iconst (v := -1) d_D_owes_16 (by decide) ?_
    refine j_iret d_D_owes_17 ⟨by rw [if_neg (fun q => by first | exact h_5 q.1 | exact h_13 q.2)], rfl, rfl⟩
  ·
    refine j_aload_n (i := 0) d_D_owes_8 rfl lg0 ?_
    refine j_iload_n (i := 2) d_D_owes_9 rfl lg2 ?_
    refine cl_D_113 (c_D_isFarm l V S (by omega) (y)) d_D_owes_10 rfl rfl (g_ftM (by decide)) (Nat.le_of_ble_eq_true rfl) (g_pu ?_)
    refine j_if_neB (tgt := 18) d_D_owes_13 (by decide) (fun h_13 => ?_) (fun h_13 => ?_)
    ·
      obtain ⟨f, hf, rfl⟩ := q_in_of h_5 (by omega)
      obtain ⟨g, hg, rfl⟩ := q_in_of h_13 (by omega)
      rw [if_pos ⟨h_5, h_13⟩, q_n_nI (by omega), q_n_nI (by omega)]
      refine j_aload_n (i := 0) d_D_owes_18 rfl lg0 ?_
      refine gf_D_29 d_D_owes_19 ?_
      refine gf_D_130 (j := 0) (by decide) d_D_owes_22 ?_
      refine j_iload_n (i := 1) d_D_owes_25 rfl lg1 ?_
      refine j_aaldO (j := 0) d_D_owes_26 (by decide) (by omega) ?_
      refine j_iload_n (i := 2) d_D_owes_27 rfl lg2 ?_
      refine j_iald d_D_owes_28 (gI_ho (by decide) (by omega)) (by omega) ?_
      refine j_iret d_D_owes_29 ⟨rfl, rfl, rfl⟩
    ·
      refine j_iconst (v := -1) d_D_owes_16 (by decide) ?_
      refine j_iret d_D_owes_17 ⟨by rw [if_neg (fun q => by first | exact h_5 q.1 | exact h_13 q.2)], rfl, rfl⟩
set_option maxRecDepth 4000 in
theorem c_D_breaks {G : g_G} (l : Launch) (V : g_V) (S : g_L) (hO : g_OK V) (x : Int32) : g_C G l y_D_breaks b_D_breaks 2 (some .int) 3 [.ref (g_a G (0)), .int (x)] V S (fun r V' S' => r = some (.int (if q_in x 21 then nI (q_brk (V 0 1) (D_str V) (q_n x)) else -2)) ∧ V' = V ∧ S' = S) := by
  refine g_C.of (lv := [some (.ref (g_a G (0))), some (.int (x))]) (by decide +kernel) rfl rfl rfl (Nat.le_of_ble_eq_true rfl) ?_
  have hn := hO.1.1
  have hK := hO.1.2.1
  have hT := hO.1.2.2
  have hH := (hO.2.2 0 (by decide)).1
  have hW := (hO.2.2 0 (by decide)).2.1
  have hsp := (hO.2.2 0 (by decide)).2.2.1
  have hdm := (hO.2.2 0 (by decide)).2.2.2.1
  have htd := (hO.2.2 0 (by decide)).2.2.2.2
  have hF := hO.2.1.1
  have hA := hO.2.1.2.1
  have hkp := hO.2.1.2.2
  refine j_iload_n (i := 1) d_D_breaks_0 rfl lg1 ?_
  refine cl_D_134 (c_D_isStorm l V S (x)) d_D_breaks_1 rfl rfl (g_ftM (by decide)) (Nat.le_of_ble_eq_true rfl) (g_pu ?_)
  refine j_if_eqB (tgt := 15) d_D_breaks_4 (by decide) (fun h_4 => ?_) (fun h_4 => ?_)
  ·
    refine j_bipush (v := -2) d_D_breaks_15 (by decide) ?_
    refine j_iret d_D_breaks_17 ⟨by rw [if_neg h_4], rfl, rfl⟩
  ·
    obtain ⟨k, hk, rfl⟩ := q_in_of h_4 (by decide)
    rw [if_pos h_4, q_n_nI (by omega)]
    have hb6 := q_brk_lt (x := k) (s := D_str V) hn
    refine j_aload_n (i := 0) d_D_breaks_7 rfl lg0 ?_
    refine j_iload_n (i := 1) d_D_breaks_8 rfl lg1 ?_
    refine cl_D_161 (c_D_brokenBy l V S (by omega) hK hH (k) (by omega)) d_D_breaks_9 rfl rfl (g_ftM (by decide)) (Nat.le_of_ble_eq_true rfl) (g_pu ?_)
    refine j_goto (tgt := 17) d_D_breaks_12 (by decide) ?_
    refine j_iret d_D_breaks_17 ⟨rfl, rfl, rfl⟩
set_option maxRecDepth 4000 in
theorem c_D_drowns {G : g_G} (l : Launch) (V : g_V) (S : g_L) (hO : g_OK V) (x : Int32) : g_C G l y_D_drowns b_D_drowns 2 (some .int) 3 [.ref (g_a G (0)), .int (x)] V S (fun r V' S' => r = some (.int (if q_in x 21 then nI (q_wet (V 0 1) (V (hB 0) 5) (q_brk (V 0 1) (D_str V) (q_n x))) else -2)) ∧ V' = V ∧ S' = S) := by
  refine g_C.of (lv := [some (.ref (g_a G (0))), some (.int (x))]) (by decide +kernel) rfl rfl rfl (Nat.le_of_ble_eq_true rfl) ?_
  have hn := hO.1.1
  have hK := hO.1.2.1
  have hT := hO.1.2.2
  have hH := (hO.2.2 0 (by decide)).1
  have hW := (hO.2.2 0 (by decide)).2.1
  have hsp := (hO.2.2 0 (by decide)).2.2.1
  have hdm := (hO.2.2 0 (by decide)).2.2.2.1
  have htd := (hO.2.2 0 (by decide)).2.2.2.2
  have hF := hO.2.1.1
  have hA := hO.2.1.2.1
  have hkp := hO.2.1.2.2
  refine j_iload_n (i := 1) d_D_drowns_0 rfl lg1 ?_
  refine cl_D_134 (c_D_isStorm l V S (x)) d_D_drowns_1 rfl rfl (g_ftM (by decide)) (Nat.le_of_ble_eq_true rfl) (g_pu ?_)
  refine j_if_eqB (tgt := 19) d_D_drowns_4 (by decide) (fun h_4 => ?_) (fun h_4 => ?_)
  ·
    refine j_bipush (v := -2) d_D_drowns_19 (by decide) ?_
    refine j_iret d_D_drowns_21 ⟨by rw [if_neg h_4], rfl, rfl⟩
  ·
    obtain ⟨k, hk, rfl⟩ := q_in_of h_4 (by decide)
    rw [if_pos h_4, q_n_nI (by omega)]
    have hb6 := q_brk_lt (x := k) (s := D_str V) hn
    refine j_aload_n (i := 0) d_D_drowns_7 rfl lg0 ?_
    refine j_aload_n (i := 0) d_D_drowns_8 rfl lg0 ?_
    refine j_iload_n (i := 1) d_D_drowns_9 rfl lg1 ?_
    refine cl_D_161 (c_D_brokenBy l V S (by omega) hK hH (k) (by omega)) d_D_drowns_10 rfl rfl (g_ftM (by decide)) (Nat.le_of_ble_eq_true rfl) (g_pu ?_)
    refine cl_D_144 (c_D_wetBy l V S (by omega) (by omega) (q_brk (V 0 1) (D_str V) (k)) (by omega)) d_D_drowns_13 rfl rfl (g_ftM (by decide)) (Nat.le_of_ble_eq_true rfl) (g_pu ?_)
    refine j_goto (tgt := 21) d_D_drowns_16 (by decide) ?_
    refine j_iret d_D_drowns_21 ⟨rfl, rfl, rfl⟩
set_option maxRecDepth 4000 in
theorem c_D_loss {G : g_G} (l : Launch) (V : g_V) (S : g_L) (hO : g_OK V) (x : Int32) : g_C G l y_D_loss b_D_loss 2 (some .int) 3 [.ref (g_a G (0)), .int (x)] V S (fun r V' S' => r = some (.int (if q_in x 21 then nI (q_pick (V 0 1) (V 4) (q_wet (V 0 1) (V (hB 0) 5) (q_brk (V 0 1) (D_str V) (q_n x)))) else -2)) ∧ V' = V ∧ S' = S) := by
  refine g_C.of (lv := [some (.ref (g_a G (0))), some (.int (x))]) (by decide +kernel) rfl rfl rfl (Nat.le_of_ble_eq_true rfl) ?_
  have hn := hO.1.1
  have hK := hO.1.2.1
  have hT := hO.1.2.2
  have hH := (hO.2.2 0 (by decide)).1
  have hW := (hO.2.2 0 (by decide)).2.1
  have hsp := (hO.2.2 0 (by decide)).2.2.1
  have hdm := (hO.2.2 0 (by decide)).2.2.2.1
  have htd := (hO.2.2 0 (by decide)).2.2.2.2
  have hF := hO.2.1.1
  have hA := hO.2.1.2.1
  have hkp := hO.2.1.2.2
  refine j_iload_n (i := 1) d_D_loss_0 rfl lg1 ?_
  refine cl_D_134 (c_D_isStorm l V S (x)) d_D_loss_1 rfl rfl (g_ftM (by decide)) (Nat.le_of_ble_eq_true rfl) (g_pu ?_)
  refine j_if_eqB (tgt := 23) d_D_loss_4 (by decide) (fun h_4 => ?_) (fun h_4 => ?_)
  ·
    refine j_bipush (v := -2) d_D_loss_23 (by decide) ?_
    refine j_iret d_D_loss_25 ⟨by rw [if_neg h_4], rfl, rfl⟩
  ·
    obtain ⟨k, hk, rfl⟩ := q_in_of h_4 (by decide)
    rw [if_pos h_4, q_n_nI (by omega)]
    have hb6 := q_brk_lt (x := k) (s := D_str V) hn
    refine j_aload_n (i := 0) d_D_loss_7 rfl lg0 ?_
    refine j_aload_n (i := 0) d_D_loss_8 rfl lg0 ?_
    refine j_aload_n (i := 0) d_D_loss_9 rfl lg0 ?_
    refine j_iload_n (i := 1) d_D_loss_10 rfl lg1 ?_
    refine cl_D_161 (c_D_brokenBy l V S (by omega) hK hH (k) (by omega)) d_D_loss_11 rfl rfl (g_ftM (by decide)) (Nat.le_of_ble_eq_true rfl) (g_pu ?_)
    refine cl_D_144 (c_D_wetBy l V S (by omega) (by omega) (q_brk (V 0 1) (D_str V) (k)) (by omega)) d_D_loss_14 rfl rfl (g_ftM (by decide)) (Nat.le_of_ble_eq_true rfl) (g_pu ?_)
    refine cl_D_147 (c_D_worthOf l V S (by omega) (fun i hi => (hK i hi).2.1) (q_wet (V 0 1) (V (hB 0) 5) (q_brk (V 0 1) (D_str V) (k))) (by first | omega | exact q_wet_lt (by omega) (by omega))) d_D_loss_17 rfl rfl (g_ftM (by decide)) (Nat.le_of_ble_eq_true rfl) (g_pu ?_)
    refine j_goto (tgt := 25) d_D_loss_20 (by decide) ?_
    refine j_iret d_D_loss_25 ⟨rfl, rfl, rfl⟩
set_option maxRecDepth 4000 in
theorem c_D_needs {G : g_G} (l : Launch) (V : g_V) (S : g_L) (hO : g_OK V) (x : Int32) : g_C G l y_D_needs b_D_needs 2 (some .int) 3 [.ref (g_a G (0)), .int (x)] V S (fun r V' S' => r = some (.int (if q_in x 21 then nI (q_lack (V 0 1) (D_str V) (1 <<< V 0 1 - 1) (q_n x)) else -2)) ∧ V' = V ∧ S' = S) := by
  refine g_C.of (lv := [some (.ref (g_a G (0))), some (.int (x))]) (by decide +kernel) rfl rfl rfl (Nat.le_of_ble_eq_true rfl) ?_
  have hn := hO.1.1
  have hK := hO.1.2.1
  have hT := hO.1.2.2
  have hH := (hO.2.2 0 (by decide)).1
  have hW := (hO.2.2 0 (by decide)).2.1
  have hsp := (hO.2.2 0 (by decide)).2.2.1
  have hdm := (hO.2.2 0 (by decide)).2.2.2.1
  have htd := (hO.2.2 0 (by decide)).2.2.2.2
  have hF := hO.2.1.1
  have hA := hO.2.1.2.1
  have hkp := hO.2.1.2.2
  refine j_iload_n (i := 1) d_D_needs_0 rfl lg1 ?_
  refine cl_D_134 (c_D_isStorm l V S (x)) d_D_needs_1 rfl rfl (g_ftM (by decide)) (Nat.le_of_ble_eq_true rfl) (g_pu ?_)
  refine j_if_eqB (tgt := 19) d_D_needs_4 (by decide) (fun h_4 => ?_) (fun h_4 => ?_)
  ·
    refine j_bipush (v := -2) d_D_needs_19 (by decide) ?_
    refine j_iret d_D_needs_21 ⟨by rw [if_neg h_4], rfl, rfl⟩
  ·
    obtain ⟨k, hk, rfl⟩ := q_in_of h_4 (by decide)
    rw [if_pos h_4, q_n_nI (by omega)]
    have hb6 := q_brk_lt (x := k) (s := D_str V) hn
    refine j_aload_n (i := 0) d_D_needs_7 rfl lg0 ?_
    refine j_aload_n (i := 0) d_D_needs_8 rfl lg0 ?_
    refine cl_D_107 (c_D_everyFarm l V S (by omega)) d_D_needs_9 rfl rfl (g_ftM (by decide)) (Nat.le_of_ble_eq_true rfl) (g_pu ?_)
    refine j_iload_n (i := 1) d_D_needs_12 rfl lg1 ?_
    refine cl_D_164 (c_D_lackOf l V S (by omega) hK hH (1 <<< V 0 1 - 1) (k) (by first | omega | (rw [Nat.one_shiftLeft]; have := Nat.pow_le_pow_right (n := 2) (j := 6) (by decide) hn; omega)) (by omega)) d_D_needs_13 rfl rfl (g_ftM (by decide)) (Nat.le_of_ble_eq_true rfl) (g_pu ?_)
    refine j_goto (tgt := 21) d_D_needs_16 (by decide) ?_
    refine j_iret d_D_needs_21 ⟨rfl, rfl, rfl⟩
set_option maxRecDepth 4000 in
theorem c_D_net {G : g_G} (l : Launch) (V : g_V) (S : g_L) (hO : g_OK V) (x : Int32) : g_C G l y_D_net b_D_net 2 (some .int) 2 [.ref (g_a G (0)), .int (x)] V S (fun r V' S' => r = some (.int (if q_in x (V 0 1) then nI 100 + q_net (D_ow V) (q_n x) (V 0 1) else -1)) ∧ V' = V ∧ S' = S) := by
  refine g_C.of (lv := [some (.ref (g_a G (0))), some (.int (x))]) (by decide +kernel) rfl rfl rfl (Nat.le_of_ble_eq_true rfl) ?_
  have hn := hO.1.1
  have hK := hO.1.2.1
  have hT := hO.1.2.2
  have hH := (hO.2.2 0 (by decide)).1
  have hW := (hO.2.2 0 (by decide)).2.1
  have hsp := (hO.2.2 0 (by decide)).2.2.1
  have hdm := (hO.2.2 0 (by decide)).2.2.2.1
  have htd := (hO.2.2 0 (by decide)).2.2.2.2
  have hF := hO.2.1.1
  have hA := hO.2.1.2.1
  have hkp := hO.2.1.2.2
  refine j_aload_n (i := 0) d_D_net_0 rfl lg0 ?_
  refine j_iload_n (i := 1) d_D_net_1 rfl lg1 ?_
  refine cl_D_113 (c_D_isFarm l V S (by omega) (x)) d_D_net_2 rfl rfl (g_ftM (by decide)) (Nat.le_of_ble_eq_true rfl) (g_pu ?_)
  refine j_if_eqB (tgt := 19) d_D_net_5 (by decide) (fun h_5 => ?_) (fun h_5 => ?_)
  ·
    refine j_iconst (v := -1) d_D_net_19 (by decide) ?_
    refine j_iret d_D_net_20 ⟨by rw [if_neg h_5], rfl, rfl⟩
  ·
    obtain ⟨f, hf, rfl⟩ := q_in_of h_5 (by omega)
    rw [if_pos h_5, q_n_nI (by omega)]
    refine j_bipushN (k := 100) d_D_net_8 (by decide) ?_
    refine j_aload_n (i := 0) d_D_net_10 rfl lg0 ?_
    refine j_iload_n (i := 1) d_D_net_11 rfl lg1 ?_
    refine cl_D_181 (c_D_netOf l V S (by omega) (f) (by omega)) d_D_net_12 rfl rfl (g_ftM (by decide)) (Nat.le_of_ble_eq_true rfl) (g_pu ?_)
    refine j_iadd d_D_net_15 ?_
    refine j_goto (tgt := 20) d_D_net_16 (by decide) ?_
    refine j_iret d_D_net_20 ⟨rfl, rfl, rfl⟩
set_option maxRecDepth 4000 in
theorem c_D_seed {G : g_G} (l : Launch) (V : g_V) (S : g_L) (v : Int64) : g_C G l y_D_seed b_D_seed 5 (some .long) 1 [.ref (g_a G (0)), .long (v)] V S (fun r V' S' => r = some (.long (S 0)) ∧ V' = V ∧ S' = g_upL S 0 v) := by
  refine g_C.of (lv := [some (.ref (g_a G (0))), some (.long (v)), none, none, none]) (by decide +kernel) rfl rfl rfl (Nat.le_of_ble_eq_true rfl) ?_
  refine j_aload_n (i := 0) d_D_seed_0 rfl lg0 ?_
  refine gf_D_214 d_D_seed_1 ?_
  refine j_lstore_n d_D_seed_4 rfl lt3n ?_
  refine j_aload_n (i := 0) d_D_seed_5 rfl lg0 ?_
  refine j_lload_n (i := 1) d_D_seed_6 rfl lg1 ?_
  refine pf_D_214 d_D_seed_7 ?_
  refine j_lload_n (i := 3) d_D_seed_10 rfl lg3 ?_
  refine j_lret d_D_seed_11 ⟨rfl, rfl, rfl⟩
/-- ALL: the first stretch whose breaking alone drowns most, and how much -/
def q_all (v : Nat → Nat) : Nat → Option (Nat × Nat)
  | 0 => none
  | k + 1 => match q_all v k with
    | none => some (k, v k)
    | some (b, m) => if m < v k then some (k, v k) else some (b, m)
def q_allb : Option (Nat × Nat) → Int32
  | none => -9
  | some (b, _) => nI b
def q_allm (z : Int32) : Option (Nat × Nat) → Int32
  | none => z
  | some (_, m) => nI m
theorem q_all_lt {v : Nat → Nat} {B : Nat} (hv : ∀ i, v i ≤ B) : ∀ {k : Nat} {b m : Nat}, q_all v k = some (b, m) → m ≤ B
  | 0, _, _, h => by cases h
  | k + 1, b, m, h => by
    unfold q_all at h
    split at h
    · cases h; exact hv k
    · rename_i b' m' e
      split at h
      · cases h; exact hv k
      · cases h; exact q_all_lt hv e
theorem q_all_t {v : Nat → Nat} {B k : Nat} {z : Int32} (hz : z < 0) (hB : B < 2 ^ 31) (hv : ∀ i, v i ≤ B) (h : q_allm z (q_all v k) < nI (v k)) : q_all v (k + 1) = some (k, v k) := by
  show (match q_all v k with | none => _ | some (b, m) => _) = _
  cases e : q_all v k with
  | none => rfl
  | some q =>
    obtain ⟨b, m⟩ := q
    rw [e] at h
    have h2 : nI m < nI (v k) := h
    have hm := q_all_lt hv e
    have hk := hv k
    rw [nI_ltI (by omega) (by omega)] at h2
    show (if _ then _ else _) = _
    rw [if_pos h2]
theorem q_all_f {v : Nat → Nat} {B k : Nat} {z : Int32} (hz : z < 0) (hB : B < 2 ^ 31) (hv : ∀ i, v i ≤ B) (h : ¬ q_allm z (q_all v k) < nI (v k)) : q_all v (k + 1) = q_all v k := by
  show (match q_all v k with | none => _ | some (b, m) => _) = _
  have hk := hv k
  cases e : q_all v k with
  | none =>
    rw [e] at h
    exact absurd (show z < nI (v k) from by
      rw [Int32.lt_iff_toInt_lt, nI_toInt (by omega)]
      rw [Int32.lt_iff_toInt_lt, Int32.toInt_zero] at hz
      omega) h
  | some q =>
    obtain ⟨b, m⟩ := q
    rw [e] at h
    have h2 : ¬ nI m < nI (v k) := h
    have hm := q_all_lt hv e
    rw [nI_ltI (by omega) (by omega)] at h2
    show (if _ then _ else _) = _
    rw [if_neg h2]
/-- what is lost where k alone breaks -/
def D_lone (V : g_V) (k : Nat) : Nat := q_pick (V 0 1) (V 4) (q_wet (V 0 1) (V (hB 0) 5) (1 <<< k))
theorem q_pick_le {n b B : Nat} {w : Nat → Nat} (hn : n ≤ 6) (hw : ∀ i, i < 6 → w i ≤ B) : q_pick n w b ≤ n * B := q_sum_le (fun i hi => by
  show (if _ then w i else 0) ≤ B
  split
  · exact hw i (by omega)
  · exact Nat.zero_le _)
theorem D_lone_le {V : g_V} (hn : V 0 1 ≤ 6) (hK : g_K V) (k : Nat) : D_lone V k ≤ 54 := by
  have h1 : D_lone V k ≤ V 0 1 * 9 := q_pick_le hn (fun i hi => (hK i hi).2.1)
  have : V 0 1 * 9 ≤ 6 * 9 := Nat.mul_le_mul_right 9 hn
  omega
set_option maxRecDepth 4000 in
theorem lp_D_all {G : g_G} (l : Launch) (V : g_V) (S : g_L) (hn : V 0 1 ≤ 6) (hK : g_K V) (hdm : V (hB 0) 5 < 64) : ∀ (n : Nat) (i : Nat) (b m : Int32), (i ≤ V 0 1) → (b = q_allb (q_all (D_lone V) i)) → (m = q_allm (-1) (q_all (D_lone V) i)) → V 0 1 - i < n → JW G (g_M G l 3 (some .int) (fun r V' S' => r = some (.int (q_allb (q_all (D_lone V) (V 0 1)))) ∧ V' = V ∧ S' = S)) b_D_all R_D 7 [some (.ref (g_a G (0))), some (.int (b)), some (.int (m)), some (.int (nI (i))), none] [] V S := by
  intro n
  induction n with
  | zero => intro i b m hi hb hm9 hm; exact absurd hm (Nat.not_lt_zero _)
  | succ n ih =>
    intro i b m hi hb hm9 hm
    refine j_iload_n (i := 3) d_D_all_7 rfl lg3 ?_
    refine j_aload_n (i := 0) d_D_all_8 rfl lg0 ?_
    refine gf_D_69 d_D_all_9 ?_
    refine j_icmp_geN (tgt := 46) d_D_all_12 (by decide) (by omega) (by omega) (fun h_12 => ?_) (fun h_12 => ?_)
    ·
      refine j_iload_n (i := 1) d_D_all_46 rfl lg1 ?_
      refine j_iret d_D_all_47 ⟨by rw [hb, show i = V 0 1 by omega], rfl, rfl⟩
    ·
      refine j_aload_n (i := 0) d_D_all_15 rfl lg0 ?_
      refine j_aload_n (i := 0) d_D_all_16 rfl lg0 ?_
      refine j_iload_n (i := 3) d_D_all_17 rfl lg3 ?_
      have h1b := q_bit_lt (k := i) (m := 6) (by omega)
      refine cl_D_98 (c_D_bit l V S (i) (by omega)) d_D_all_18 rfl rfl (g_ftM (by decide)) (Nat.le_of_ble_eq_true rfl) (g_pu ?_)
      refine cl_D_144 (c_D_wetBy l V S (by omega) (by omega) (1 <<< (i)) (by omega)) d_D_all_21 rfl rfl (g_ftM (by decide)) (Nat.le_of_ble_eq_true rfl) (g_pu ?_)
      refine cl_D_147 (c_D_worthOf l V S (by omega) (fun i hi => (hK i hi).2.1) (q_wet (V 0 1) (V (hB 0) 5) (1 <<< (i))) (by first | omega | exact q_wet_lt (by omega) (by omega))) d_D_all_24 rfl rfl (g_ftM (by decide)) (Nat.le_of_ble_eq_true rfl) (g_pu ?_)
      refine j_istore d_D_all_27 ls4i ?_
      refine j_iload d_D_all_29 lg4 ?_
      refine j_iload_n (i := 2) d_D_all_31 rfl lg2 ?_
      refine j_icmp_le (tgt := 40) d_D_all_32 (by decide) (fun h_32 => ?_) (fun h_32 => ?_)
      ·
        have hq := q_all_f (by decide) (by decide) (D_lone_le hn hK) (show ¬ q_allm (-1) _ < nI (D_lone V i) from hm9 ▸ (fun q => absurd q (by rw [Int32.lt_iff_toInt_lt]; rw [Int32.le_iff_toInt_le] at h_32; exact Int.not_lt.mpr h_32)))
        refine j_iincN (k := 1) d_D_all_40 lg3 (by decide) ls3i ?_
        refine j_goto (tgt := 7) d_D_all_43 (by decide) ?_
        exact j_fg 4 (ih (i + 1) _ _ (by omega) (by rw [hb, hq]) (by rw [hm9, hq]) (by omega))
      ·
        refine j_iload d_D_all_35 lg4 ?_
        refine j_istore_n d_D_all_37 rfl ls2i ?_
        refine j_iload_n (i := 3) d_D_all_38 rfl lg3 ?_
        refine j_istore_n d_D_all_39 rfl ls1r ?_
        have hq := q_all_t (by decide) (by decide) (D_lone_le hn hK) (show q_allm (-1) _ < nI (D_lone V i) by rw [← hm9]; exact g_nle h_32)
        refine j_iincN (k := 1) d_D_all_40 lg3 (by decide) ls3i ?_
        refine j_goto (tgt := 7) d_D_all_43 (by decide) ?_
        exact j_fg 4 (ih (i + 1) _ _ (by omega) (by rw [hq]; rfl) (by rw [hq]; rfl) (by omega))
set_option maxRecDepth 4000 in
theorem c_D_all {G : g_G} (l : Launch) (V : g_V) (S : g_L) (hO : g_OK V) : g_C G l y_D_all b_D_all 5 (some .int) 3 [.ref (g_a G (0))] V S (fun r V' S' => r = some (.int (q_allb (q_all (D_lone V) (V 0 1)))) ∧ V' = V ∧ S' = S) := by
  refine g_C.of (lv := [some (.ref (g_a G (0))), none, none, none, none]) (by decide +kernel) rfl rfl rfl (Nat.le_of_ble_eq_true rfl) ?_
  have hn := hO.1.1
  have hK := hO.1.2.1
  have hT := hO.1.2.2
  have hH := (hO.2.2 0 (by decide)).1
  have hW := (hO.2.2 0 (by decide)).2.1
  have hsp := (hO.2.2 0 (by decide)).2.2.1
  have hdm := (hO.2.2 0 (by decide)).2.2.2.1
  have htd := (hO.2.2 0 (by decide)).2.2.2.2
  have hF := hO.2.1.1
  have hA := hO.2.1.2.1
  have hkp := hO.2.1.2.2
  refine j_bipush (v := -9) d_D_all_0 (by decide) ?_
  refine j_istore_n d_D_all_2 rfl ls1r ?_
  refine j_iconst (v := -1) d_D_all_3 (by decide) ?_
  refine j_istore_n d_D_all_4 rfl ls2i ?_
  refine j_iconstN (k := 0) d_D_all_5 (by decide) ?_
  refine j_istore_n d_D_all_6 rfl ls3i ?_
  exact j_fg 4 (lp_D_all l V S hn hK hdm _ 0 (-9) (-1) (by omega) rfl rfl (Nat.lt_succ_self _))
