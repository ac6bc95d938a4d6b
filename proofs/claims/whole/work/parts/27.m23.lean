/-! The reference: its public methods, the plain ones. -/
/-- what the walks of the reference stand on -/
def M_OK (V : g_V) : Prop :=
  (V 201 0 = 0 ∧ V 201 4 ≤ 6 ∧ M_K V ∧ V 201 2 ≤ 48 ∧ V 201 14 ≤ 14) ∧
  g_H V 207 ∧ (∀ i, i < 6 → V 207 (6 + i) ≤ 900) ∧ V 207 18 < 64 ∧ V 207 19 < 64 ∧ V 207 20 ≤ 900
theorem cv_ow {V : g_V} {a b : Nat} (h : a < 6) : D_ow (g_cv V) a b = V 207 (21 + 6 * a + b) := by
  rcases (show a = 0 ∨ a = 1 ∨ a = 2 ∨ a = 3 ∨ a = 4 ∨ a = 5 by omega) with e | e | e | e | e | e
  · rw [e]; rfl
  · rw [e]; rfl
  · rw [e]; rfl
  · rw [e]; rfl
  · rw [e]; rfl
  · rw [e]; rfl
theorem cv_net {V : g_V} {f : Nat} (hf : f < 6) : ∀ {k : Nat}, k ≤ 6 → q_net (D_ow (g_cv V)) f k = q_net (M_ow V) f k
  | 0, _ => rfl
  | k + 1, hk => by
    show q_net (D_ow (g_cv V)) f k + _ = q_net (M_ow V) f k + _
    rw [cv_net hf (by omega), cv_ow (by omega), cv_ow hf]
    rfl
theorem cv_z {V : g_V} (hn : V 201 4 ≤ 6) {f : Nat} (hf : f < 6) : D_z (g_cv V) f = M_z V f := cv_net hf hn
set_option maxRecDepth 4000 in
theorem c_M_wipe {G : g_G} (l : Launch) (V : g_V) (S : g_L) (hO : M_OK V) : g_C G l y_M_wipe b_M_wipe 2 (some .int) 1 [.ref (g_a G (201))] V S (fun r V' S' => r = some (.int (nI (V 201 2))) ∧ V' = g_up V 201 2 0 ∧ S' = S) := by
  refine g_C.of (lv := [some (.ref (g_a G (201))), none]) (by decide +kernel) rfl rfl rfl (Nat.le_of_ble_eq_true rfl) ?_
  have h0 := hO.1.1
  have hn := hO.1.2.1
  have hK := hO.1.2.2.1
  have hX := hO.1.2.2.2.1
  have hA := hO.1.2.2.2.2
  have hH := hO.2.1
  have hW := hO.2.2.1
  have hsp := hO.2.2.2.1
  have hd := hO.2.2.2.2.1
  have htd := hO.2.2.2.2.2
  refine j_aload_n (i := 0) d_M_wipe_0 rfl lg0 ?_
  refine j_iconstN (k := 0) d_M_wipe_1 (by decide) ?_
  refine pf_M_47 d_M_wipe_2 ?_
  rw [g_up_id h0]
  refine j_aload_n (i := 0) d_M_wipe_5 rfl lg0 ?_
  refine gf_M_62 d_M_wipe_6 ?_
  refine j_istore_n d_M_wipe_9 rfl ls1r ?_
  refine j_aload_n (i := 0) d_M_wipe_10 rfl lg0 ?_
  refine j_iconstN (k := 0) d_M_wipe_11 (by decide) ?_
  refine pf_M_62 d_M_wipe_12 ?_
  refine j_iload_n (i := 1) d_M_wipe_15 rfl lg1 ?_
  refine j_iret d_M_wipe_16 ⟨rfl, rfl, rfl⟩
set_option maxRecDepth 4000 in
theorem c_M_write {G : g_G} (l : Launch) (V : g_V) (S : g_L) (hO : M_OK V) (x : Int32) : g_C G l y_M_write b_M_write 2 (some .int) 2 [.ref (g_a G (201)), .int (x)] V S (fun r V' S' => S' = S ∧ ((¬ q_in x 256 ∧ r = some (.int (-2)) ∧ V' = V) ∨ (q_in x 256 ∧ 48 ≤ V 201 2 ∧ r = some (.int (-4)) ∧ V' = V) ∨ (q_in x 256 ∧ V 201 2 < 48 ∧ r = some (.int (nI (V 201 2 + 1))) ∧ V' = g_up (g_up V 202 (V 201 2) (q_n x)) 201 2 (V 201 2 + 1)))) := by
  refine g_C.of (lv := [some (.ref (g_a G (201))), some (.int (x))]) (by decide +kernel) rfl rfl rfl (Nat.le_of_ble_eq_true rfl) ?_
  have h0 := hO.1.1
  have hn := hO.1.2.1
  have hK := hO.1.2.2.1
  have hX := hO.1.2.2.2.1
  have hA := hO.1.2.2.2.2
  have hH := hO.2.1
  have hW := hO.2.2.1
  have hsp := hO.2.2.2.1
  have hd := hO.2.2.2.2.1
  have htd := hO.2.2.2.2.2
  refine j_aload_n (i := 0) d_M_write_0 rfl lg0 ?_
  refine j_iconstN (k := 0) d_M_write_1 (by decide) ?_
  refine pf_M_47 d_M_write_2 ?_
  rw [g_up_id h0]
  refine j_iload_n (i := 1) d_M_write_5 rfl lg1 ?_
  refine j_i2l d_M_write_6 ?_
  refine j_lconst (v := 0) d_M_write_7 rfl ?_
  refine j_ldc2 (v := 255) d_M_write_8 (g_use (List.mem_of_getElem? (i := 549) (by decide +kernel)) rfl) ?_
  refine cl_M_54 (c_M_in l V S ((x).toInt64) (0) (255)) d_M_write_11 rfl rfl (g_ftM (by decide)) (Nat.le_of_ble_eq_true rfl) (g_pu ?_)
  refine j_if_neB (tgt := 20) d_M_write_14 (by decide) (fun h_14 => ?_) (fun h_14 => ?_)
  ·
    have hx := (q_rng_in (k := 255) (by decide)).mp h_14
    obtain ⟨k, hk, rfl⟩ := q_in_of hx (by decide)
    refine j_aload_n (i := 0) d_M_write_20 rfl lg0 ?_
    refine gf_M_62 d_M_write_21 ?_
    refine j_bipushN (k := 48) d_M_write_24 (by decide) ?_
    refine j_icmp_neN (tgt := 32) d_M_write_26 (by decide) (by omega) (by omega) (fun h_26 => ?_) (fun h_26 => ?_)
    ·
      refine j_aload_n (i := 0) d_M_write_32 rfl lg0 ?_
      refine gf_M_7 d_M_write_33 ?_
      refine j_aload_n (i := 0) d_M_write_36 rfl lg0 ?_
      refine gf_M_62 d_M_write_37 ?_
      refine j_iload_n (i := 1) d_M_write_40 rfl lg1 ?_
      refine j_iast d_M_write_41 gI_202 (by omega) ?_
      refine j_aload_n (i := 0) d_M_write_42 rfl lg0 ?_
      refine j_dup d_M_write_43 rfl ?_
      refine gf_M_62 d_M_write_44 ?_
      refine j_eqv (b := V 201 2) (by rw [g_upN (by first | decide | omega | (unfold hB; omega))]) ?_
      refine j_iconstN (k := 1) d_M_write_47 (by decide) ?_
      refine j_iaddN d_M_write_48 ?_
      refine pf_M_62 d_M_write_49 ?_
      refine j_aload_n (i := 0) d_M_write_52 rfl lg0 ?_
      refine gf_M_62 d_M_write_53 ?_
      refine j_eqv (b := (V 201 2) + 1) (by rw [g_upS]) ?_
      refine j_iret d_M_write_56 ⟨rfl, Or.inr (Or.inr ⟨hx, by omega, rfl, by rw [q_n_nI (by omega)]⟩)⟩
    ·
      refine j_bipush (v := -4) d_M_write_29 (by decide) ?_
      refine j_iret d_M_write_31 ⟨rfl, Or.inr (Or.inl ⟨hx, by omega, rfl, rfl⟩)⟩
  ·
    refine j_bipush (v := -2) d_M_write_17 (by decide) ?_
    refine j_iret d_M_write_19 ⟨rfl, Or.inl ⟨fun q => h_14 ((q_rng_in (k := 255) (by decide)).mpr q), rfl, rfl⟩⟩
set_option maxRecDepth 4000 in
theorem c_M_about {G : g_G} (l : Launch) (V : g_V) (S : g_L) (hO : M_OK V) (w : Int32) : g_C G l y_M_about b_M_about 2 (some .int) 3 [.ref (g_a G (201)), .int (w)] V S (fun r V' S' => r = some (.int (D_about (g_cv V) w)) ∧ V' = V ∧ S' = S) := by
  refine g_C.of (lv := [some (.ref (g_a G (201))), some (.int (w))]) (by decide +kernel) rfl rfl rfl (Nat.le_of_ble_eq_true rfl) ?_
  have h0 := hO.1.1
  have hn := hO.1.2.1
  have hK := hO.1.2.2.1
  have hX := hO.1.2.2.2.1
  have hA := hO.1.2.2.2.2
  have hH := hO.2.1
  have hW := hO.2.2.1
  have hsp := hO.2.2.2.1
  have hd := hO.2.2.2.2.1
  have htd := hO.2.2.2.2.2
  have hE := g_E64 hn
  refine j_aload_n (i := 0) d_M_about_0 rfl lg0 ?_
  refine j_iconstN (k := 0) d_M_about_1 (by decide) ?_
  refine pf_M_47 d_M_about_2 ?_
  rw [g_up_id h0]
  refine j_iload_n (i := 1) d_M_about_5 rfl lg1 ?_
  by_cases h_6_0 : w = 0
  ·
    refine j_tableIn (tgt := 48) d_M_about_6 (by rw [h_6_0]; decide) (by rw [h_6_0]; decide) (by rw [h_6_0]; rfl) (by decide) ?_
    refine j_aload_n (i := 0) d_M_about_48 rfl lg0 ?_
    refine gf_M_51 d_M_about_49 ?_
    refine j_iret d_M_about_52 ⟨by unfold D_about; rw [if_pos h_6_0] <;> rfl, rfl, rfl⟩
  by_cases h_6_1 : w = 1
  ·
    refine j_tableIn (tgt := 53) d_M_about_6 (by rw [h_6_1]; decide) (by rw [h_6_1]; decide) (by rw [h_6_1]; rfl) (by decide) ?_
    refine j_aload_n (i := 0) d_M_about_53 rfl lg0 ?_
    refine gf_M_25 d_M_about_54 ?_
    refine j_bipushN (k := 19) d_M_about_57 (by decide) ?_
    refine j_iald d_M_about_59 gI_207 (by omega) ?_
    refine j_iret d_M_about_60 ⟨by unfold D_about; rw [if_neg h_6_0, if_pos h_6_1] <;> rfl, rfl, rfl⟩
  by_cases h_6_2 : w = 2
  ·
    refine j_tableIn (tgt := 61) d_M_about_6 (by rw [h_6_2]; decide) (by rw [h_6_2]; decide) (by rw [h_6_2]; rfl) (by decide) ?_
    refine j_aload_n (i := 0) d_M_about_61 rfl lg0 ?_
    refine gf_M_25 d_M_about_62 ?_
    refine j_bipushN (k := 18) d_M_about_65 (by decide) ?_
    refine j_iald d_M_about_67 gI_207 (by omega) ?_
    refine j_iret d_M_about_68 ⟨by unfold D_about; rw [if_neg h_6_0, if_neg h_6_1, if_pos h_6_2] <;> rfl, rfl, rfl⟩
  by_cases h_6_3 : w = 3
  ·
    refine j_tableIn (tgt := 69) d_M_about_6 (by rw [h_6_3]; decide) (by rw [h_6_3]; decide) (by rw [h_6_3]; rfl) (by decide) ?_
    refine j_aload_n (i := 0) d_M_about_69 rfl lg0 ?_
    refine gf_M_25 d_M_about_70 ?_
    refine j_bipushN (k := 20) d_M_about_73 (by decide) ?_
    refine j_iald d_M_about_75 gI_207 (by omega) ?_
    refine j_iret d_M_about_76 ⟨by unfold D_about; rw [if_neg h_6_0, if_neg h_6_1, if_neg h_6_2, if_pos h_6_3] <;> rfl, rfl, rfl⟩
  by_cases h_6_4 : w = 4
  ·
    refine j_tableIn (tgt := 77) d_M_about_6 (by rw [h_6_4]; decide) (by rw [h_6_4]; decide) (by rw [h_6_4]; rfl) (by decide) ?_
    refine j_aload_n (i := 0) d_M_about_77 rfl lg0 ?_
    refine j_aload_n (i := 0) d_M_about_78 rfl lg0 ?_
    refine cl_M_108 (c_M_everyone l V S (by omega)) d_M_about_79 rfl rfl (g_ftM (by decide)) (Nat.le_of_ble_eq_true rfl) (g_pu ?_)
    refine cl_M_111 (c_M_clayOf l V S (by omega) (fun i hi => by have := hW i hi; omega) (1 <<< V 201 4 - 1) (by omega)) d_M_about_82 rfl rfl (g_ftM (by decide)) (Nat.le_of_ble_eq_true rfl) (g_pu ?_)
    refine j_iret d_M_about_85 ⟨by unfold D_about; rw [if_neg h_6_0, if_neg h_6_1, if_neg h_6_2, if_neg h_6_3, if_pos h_6_4] <;> rfl, rfl, rfl⟩
  by_cases h_6_5 : w = 5
  ·
    refine j_tableIn (tgt := 86) d_M_about_6 (by rw [h_6_5]; decide) (by rw [h_6_5]; decide) (by rw [h_6_5]; rfl) (by decide) ?_
    refine j_aload_n (i := 0) d_M_about_86 rfl lg0 ?_
    refine gf_M_98 d_M_about_87 ?_
    refine j_iret d_M_about_90 ⟨by unfold D_about; rw [if_neg h_6_0, if_neg h_6_1, if_neg h_6_2, if_neg h_6_3, if_neg h_6_4, if_pos h_6_5] <;> rfl, rfl, rfl⟩
  by_cases h_6_6 : w = 6
  ·
    refine j_tableIn (tgt := 91) d_M_about_6 (by rw [h_6_6]; decide) (by rw [h_6_6]; decide) (by rw [h_6_6]; rfl) (by decide) ?_
    refine j_aload_n (i := 0) d_M_about_91 rfl lg0 ?_
    refine gf_M_62 d_M_about_92 ?_
    refine j_iret d_M_about_95 ⟨by unfold D_about; rw [if_neg h_6_0, if_neg h_6_1, if_neg h_6_2, if_neg h_6_3, if_neg h_6_4, if_neg h_6_5, if_pos h_6_6] <;> rfl, rfl, rfl⟩
  refine j_tableOut (tgt := 96) d_M_about_6 (g_sw0_6 h_6_0 h_6_1 h_6_2 h_6_3 h_6_4 h_6_5 h_6_6) (by decide) ?_
  refine j_bipush (v := -2) d_M_about_96 (by decide) ?_
  refine j_iret d_M_about_98 ⟨by unfold D_about; rw [if_neg h_6_0, if_neg h_6_1, if_neg h_6_2, if_neg h_6_3, if_neg h_6_4, if_neg h_6_5, if_neg h_6_6] <;> rfl, rfl, rfl⟩
set_option maxRecDepth 4000 in
theorem c_M_farm {G : g_G} (l : Launch) (V : g_V) (S : g_L) (hO : M_OK V) (x w : Int32) : g_C G l y_M_farm b_M_farm 3 (some .int) 3 [.ref (g_a G (201)), .int (x), .int (w)] V S (fun r V' S' => r = some (.int (if q_in x (g_cv V 0 1) then D_farm (g_cv V) (q_n x) w else -1)) ∧ V' = V ∧ S' = S) := by
  refine g_C.of (lv := [some (.ref (g_a G (201))), some (.int (x)), some (.int (w))]) (by decide +kernel) rfl rfl rfl (Nat.le_of_ble_eq_true rfl) ?_
  have h0 := hO.1.1
  have hn := hO.1.2.1
  have hK := hO.1.2.2.1
  have hX := hO.1.2.2.2.1
  have hA := hO.1.2.2.2.2
  have hH := hO.2.1
  have hW := hO.2.2.1
  have hsp := hO.2.2.2.1
  have hd := hO.2.2.2.2.1
  have htd := hO.2.2.2.2.2
  refine j_aload_n (i := 0) d_M_farm_0 rfl lg0 ?_
  refine j_iconstN (k := 0) d_M_farm_1 (by decide) ?_
  refine pf_M_47 d_M_farm_2 ?_
  rw [g_up_id h0]
  refine j_aload_n (i := 0) d_M_farm_5 rfl lg0 ?_
  refine j_iload_n (i := 1) d_M_farm_6 rfl lg1 ?_
  refine cl_M_115 (c_M_noFarm l V S (by omega) (x)) d_M_farm_7 rfl rfl (g_ftM (by decide)) (Nat.le_of_ble_eq_true rfl) (g_pu ?_)
  refine j_if_eqB (tgt := 15) d_M_farm_10 (by decide) (fun h_10 => ?_) (fun h_10 => ?_)
  ·
    have hxf := Classical.not_not.mp h_10
    obtain ⟨f, hf, rfl⟩ := q_in_of hxf (by omega)
    rw [show g_cv V 0 1 = V 201 4 from rfl, if_pos hxf, q_n_nI (by omega)]
    refine j_iload_n (i := 2) d_M_farm_15 rfl lg2 ?_
    by_cases h_16_0 : w = 0
    ·
      refine j_tableIn (tgt := 60) d_M_farm_16 (by rw [h_16_0]; decide) (by rw [h_16_0]; decide) (by rw [h_16_0]; rfl) (by decide) ?_
      refine j_aload_n (i := 0) d_M_farm_60 rfl lg0 ?_
      refine gf_M_25 d_M_farm_61 ?_
      refine j_iconstN (k := 0) d_M_farm_64 (by decide) ?_
      refine j_iload_n (i := 1) d_M_farm_65 rfl lg1 ?_
      refine j_iaddN d_M_farm_66 ?_
      rw [Nat.zero_add]
      refine j_iald d_M_farm_67 gI_207 (by omega) ?_
      refine j_iret d_M_farm_68 ⟨by unfold D_farm; rw [if_pos h_16_0] <;> rfl, rfl, rfl⟩
    by_cases h_16_1 : w = 1
    ·
      refine j_tableIn (tgt := 69) d_M_farm_16 (by rw [h_16_1]; decide) (by rw [h_16_1]; decide) (by rw [h_16_1]; rfl) (by decide) ?_
      refine j_aload_n (i := 0) d_M_farm_69 rfl lg0 ?_
      refine gf_M_13 d_M_farm_70 ?_
      refine j_iload_n (i := 1) d_M_farm_73 rfl lg1 ?_
      refine j_iald d_M_farm_74 gI_203 (by omega) ?_
      refine j_iret d_M_farm_75 ⟨by unfold D_farm; rw [if_neg h_16_0, if_pos h_16_1] <;> rfl, rfl, rfl⟩
    by_cases h_16_2 : w = 2
    ·
      refine j_tableIn (tgt := 76) d_M_farm_16 (by rw [h_16_2]; decide) (by rw [h_16_2]; decide) (by rw [h_16_2]; rfl) (by decide) ?_
      refine j_aload_n (i := 0) d_M_farm_76 rfl lg0 ?_
      refine gf_M_25 d_M_farm_77 ?_
      refine j_bipushN (k := 6) d_M_farm_80 (by decide) ?_
      refine j_iload_n (i := 1) d_M_farm_82 rfl lg1 ?_
      refine j_iaddN d_M_farm_83 ?_
      refine j_iald d_M_farm_84 gI_207 (by omega) ?_
      refine j_iret d_M_farm_85 ⟨by unfold D_farm; rw [if_neg h_16_0, if_neg h_16_1, if_pos h_16_2] <;> rfl, rfl, rfl⟩
    by_cases h_16_3 : w = 3
    ·
      refine j_tableIn (tgt := 86) d_M_farm_16 (by rw [h_16_3]; decide) (by rw [h_16_3]; decide) (by rw [h_16_3]; rfl) (by decide) ?_
      refine j_aload_n (i := 0) d_M_farm_86 rfl lg0 ?_
      refine gf_M_16 d_M_farm_87 ?_
      refine j_iload_n (i := 1) d_M_farm_90 rfl lg1 ?_
      refine j_iald d_M_farm_91 gI_204 (by omega) ?_
      refine j_iret d_M_farm_92 ⟨by unfold D_farm; rw [if_neg h_16_0, if_neg h_16_1, if_neg h_16_2, if_pos h_16_3] <;> rfl, rfl, rfl⟩
    by_cases h_16_4 : w = 4
    ·
      refine j_tableIn (tgt := 93) d_M_farm_16 (by rw [h_16_4]; decide) (by rw [h_16_4]; decide) (by rw [h_16_4]; rfl) (by decide) ?_
      refine j_aload_n (i := 0) d_M_farm_93 rfl lg0 ?_
      refine gf_M_19 d_M_farm_94 ?_
      refine j_iload_n (i := 1) d_M_farm_97 rfl lg1 ?_
      refine j_iald d_M_farm_98 gI_205 (by omega) ?_
      refine j_iret d_M_farm_99 ⟨by unfold D_farm; rw [if_neg h_16_0, if_neg h_16_1, if_neg h_16_2, if_neg h_16_3, if_pos h_16_4] <;> rfl, rfl, rfl⟩
    by_cases h_16_5 : w = 5
    ·
      refine j_tableIn (tgt := 100) d_M_farm_16 (by rw [h_16_5]; decide) (by rw [h_16_5]; decide) (by rw [h_16_5]; rfl) (by decide) ?_
      refine j_aload_n (i := 0) d_M_farm_100 rfl lg0 ?_
      refine gf_M_25 d_M_farm_101 ?_
      refine j_bipushN (k := 12) d_M_farm_104 (by decide) ?_
      refine j_iload_n (i := 1) d_M_farm_106 rfl lg1 ?_
      refine j_iaddN d_M_farm_107 ?_
      refine j_iald d_M_farm_108 gI_207 (by omega) ?_
      refine j_iret d_M_farm_109 ⟨by unfold D_farm; rw [if_neg h_16_0, if_neg h_16_1, if_neg h_16_2, if_neg h_16_3, if_neg h_16_4, if_pos h_16_5] <;> rfl, rfl, rfl⟩
    by_cases h_16_6 : w = 6
    ·
      refine j_tableIn (tgt := 110) d_M_farm_16 (by rw [h_16_6]; decide) (by rw [h_16_6]; decide) (by rw [h_16_6]; rfl) (by decide) ?_
      refine j_aload_n (i := 0) d_M_farm_110 rfl lg0 ?_
      refine j_aload_n (i := 0) d_M_farm_111 rfl lg0 ?_
      refine gf_M_25 d_M_farm_112 ?_
      refine j_iload_n (i := 1) d_M_farm_115 rfl lg1 ?_
      refine cl_M_101 (c_M_strength l V S (207) (f) gI_207 (by omega) hK) d_M_farm_116 rfl rfl (g_ftM (by decide)) (Nat.le_of_ble_eq_true rfl) (g_pu ?_)
      refine j_iret d_M_farm_119 ⟨by unfold D_farm; rw [if_neg h_16_0, if_neg h_16_1, if_neg h_16_2, if_neg h_16_3, if_neg h_16_4, if_neg h_16_5, if_pos h_16_6] <;> rfl, rfl, rfl⟩
    refine j_tableOut (tgt := 120) d_M_farm_16 (g_sw0_6 h_16_0 h_16_1 h_16_2 h_16_3 h_16_4 h_16_5 h_16_6) (by decide) ?_
    refine j_bipush (v := -2) d_M_farm_120 (by decide) ?_
    refine j_iret d_M_farm_122 ⟨by unfold D_farm; rw [if_neg h_16_0, if_neg h_16_1, if_neg h_16_2, if_neg h_16_3, if_neg h_16_4, if_neg h_16_5, if_neg h_16_6] <;> rfl, rfl, rfl⟩
  ·
    refine j_iconst (v := -1) d_M_farm_13 (by decide) ?_
    refine j_iret d_M_farm_14 ⟨by rw [show g_cv V 0 1 = V 201 4 from rfl, if_neg h_10], rfl, rfl⟩
set_option maxRecDepth 4000 in
theorem c_M_owes {G : g_G} (l : Launch) (V : g_V) (S : g_L) (hO : M_OK V) (x y : Int32) : g_C G l y_M_owes b_M_owes 3 (some .int) 3 [.ref (g_a G (201)), .int (x), .int (y)] V S (fun r V' S' => r = some (.int (if q_in x (g_cv V 0 1) ∧ q_in y (g_cv V 0 1) then nI (D_ow (g_cv V) (q_n x) (q_n y)) else -1)) ∧ V' = V ∧ S' = S) := by
  refine g_C.of (lv := [some (.ref (g_a G (201))), some (.int (x)), some (.int (y))]) (by decide +kernel) rfl rfl rfl (Nat.le_of_ble_eq_true rfl) ?_
  have h0 := hO.1.1
  have hn := hO.1.2.1
  have hK := hO.1.2.2.1
  have hX := hO.1.2.2.2.1
  have hA := hO.1.2.2.2.2
  have hH := hO.2.1
  have hW := hO.2.2.1
  have hsp := hO.2.2.2.1
  have hd := hO.2.2.2.2.1
  have htd := hO.2.2.2.2.2
  refine j_aload_n (i := 0) d_M_owes_0 rfl lg0 ?_
  refine j_iconstN (k := 0) d_M_owes_1 (by decide) ?_
  refine pf_M_47 d_M_owes_2 ?_
  rw [g_up_id h0]
  refine j_aload_n (i := 0) d_M_owes_5 rfl lg0 ?_
  refine j_iload_n (i := 1) d_M_owes_6 rfl lg1 ?_
  refine cl_M_115 (c_M_noFarm l V S (by omega) (x)) d_M_owes_7 rfl rfl (g_ftM (by decide)) (Nat.le_of_ble_eq_true rfl) (g_pu ?_)
  refine j_if_neB (tgt := 21) d_M_owes_10 (by decide) (fun h_10 => ?_) (fun h_10 => ?_)
  ·
    refine j_iconst (v := -1) d_M_owes_21 (by decide) ?_
    refine j_goto (tgt := 39) d_M_owes_22 (by decide) ?_
    refine j_iret d_M_owes_39 ⟨by rw [show g_cv V 0 1 = V 201 4 from rfl, if_neg (fun q => by first | exact h_10 q.1 | exact h_18 q.2)], rfl, rfl⟩
  ·
    refine j_aload_n (i := 0) d_M_owes_13 rfl lg0 ?_
    refine j_iload_n (i := 2) d_M_owes_14 rfl lg2 ?_
    refine cl_M_115 (c_M_noFarm l V S (by omega) (y)) d_M_owes_15 rfl rfl (g_ftM (by decide)) (Nat.le_of_ble_eq_true rfl) (g_pu ?_)
    refine j_if_eqB (tgt := 25) d_M_owes_18 (by decide) (fun h_18 => ?_) (fun h_18 => ?_)
    ·
      have hxf := Classical.not_not.mp h_10
      have hyf := Classical.not_not.mp h_18
      obtain ⟨f, hf, rfl⟩ := q_in_of hxf (by omega)
      obtain ⟨g, hg, rfl⟩ := q_in_of hyf (by omega)
      rw [show g_cv V 0 1 = V 201 4 from rfl, if_pos ⟨hxf, hyf⟩, q_n_nI (by omega), q_n_nI (by omega), cv_ow (by omega)]
      refine j_aload_n (i := 0) d_M_owes_25 rfl lg0 ?_
      refine gf_M_25 d_M_owes_26 ?_
      refine j_bipushN (k := 21) d_M_owes_29 (by decide) ?_
      refine j_bipushN (k := 6) d_M_owes_31 (by decide) ?_
      refine j_iload_n (i := 1) d_M_owes_33 rfl lg1 ?_
      refine j_imulN d_M_owes_34 ?_
      refine j_iaddN d_M_owes_35 ?_
      refine j_iload_n (i := 2) d_M_owes_36 rfl lg2 ?_
      refine j_iaddN d_M_owes_37 ?_
      refine j_iald d_M_owes_38 gI_207 (by omega) ?_
      refine j_iret d_M_owes_39 ⟨rfl, rfl, rfl⟩
    ·
      refine j_iconst (v := -1) d_M_owes_21 (by decide) ?_
      refine j_goto (tgt := 39) d_M_owes_22 (by decide) ?_
      refine j_iret d_M_owes_39 ⟨by rw [show g_cv V 0 1 = V 201 4 from rfl, if_neg (fun q => by first | exact h_10 q.1 | exact h_18 q.2)], rfl, rfl⟩
set_option maxRecDepth 4000 in
theorem c_M_breaks {G : g_G} (l : Launch) (V : g_V) (S : g_L) (hO : M_OK V) (x : Int32) : g_C G l y_M_breaks b_M_breaks 2 (some .int) 3 [.ref (g_a G (201)), .int (x)] V S (fun r V' S' => r = some (.int (if q_in x 21 then nI (q_brk (g_cv V 0 1) (D_str (g_cv V)) (q_n x)) else -2)) ∧ V' = V ∧ S' = S) := by
  refine g_C.of (lv := [some (.ref (g_a G (201))), some (.int (x))]) (by decide +kernel) rfl rfl rfl (Nat.le_of_ble_eq_true rfl) ?_
  have h0 := hO.1.1
  have hn := hO.1.2.1
  have hK := hO.1.2.2.1
  have hX := hO.1.2.2.2.1
  have hA := hO.1.2.2.2.2
  have hH := hO.2.1
  have hW := hO.2.2.1
  have hsp := hO.2.2.2.1
  have hd := hO.2.2.2.2.1
  have htd := hO.2.2.2.2.2
  refine j_aload_n (i := 0) d_M_breaks_0 rfl lg0 ?_
  refine j_iconstN (k := 0) d_M_breaks_1 (by decide) ?_
  refine pf_M_47 d_M_breaks_2 ?_
  rw [g_up_id h0]
  refine j_iload_n (i := 1) d_M_breaks_5 rfl lg1 ?_
  refine cl_M_119 (c_M_noStorm l V S (x)) d_M_breaks_6 rfl rfl (g_ftM (by decide)) (Nat.le_of_ble_eq_true rfl) (g_pu ?_)
  refine j_if_eqB (tgt := 17) d_M_breaks_9 (by decide) (fun h_9 => ?_) (fun h_9 => ?_)
  ·
    have hxs := Classical.not_not.mp h_9
    obtain ⟨k, hk, rfl⟩ := q_in_of hxs (by decide)
    rw [if_pos hxs, q_n_nI (by omega)]
    have hb6 := q_brk_lt (m := 6) (x := k) (s := M_str V 207) hn
    have hE := g_E64 hn
    refine j_aload_n (i := 0) d_M_breaks_17 rfl lg0 ?_
    refine j_aload_n (i := 0) d_M_breaks_18 rfl lg0 ?_
    refine gf_M_25 d_M_breaks_19 ?_
    refine j_iload_n (i := 1) d_M_breaks_22 rfl lg1 ?_
    refine cl_M_105 (c_M_breaksBy l V S (by omega) hK (207) (k) gI_207 hH (by omega)) d_M_breaks_23 rfl rfl (g_ftM (by decide)) (Nat.le_of_ble_eq_true rfl) (g_pu ?_)
    refine j_iret d_M_breaks_26 ⟨rfl, rfl, rfl⟩
  ·
    refine j_bipush (v := -2) d_M_breaks_12 (by decide) ?_
    refine j_goto (tgt := 26) d_M_breaks_14 (by decide) ?_
    refine j_iret d_M_breaks_26 ⟨by rw [if_neg h_9], rfl, rfl⟩
set_option maxRecDepth 4000 in
theorem c_M_drowns {G : g_G} (l : Launch) (V : g_V) (S : g_L) (hO : M_OK V) (x : Int32) : g_C G l y_M_drowns b_M_drowns 2 (some .int) 3 [.ref (g_a G (201)), .int (x)] V S (fun r V' S' => r = some (.int (if q_in x 21 then nI (q_wet (g_cv V 0 1) (g_cv V (hB 0) 5) (q_brk (g_cv V 0 1) (D_str (g_cv V)) (q_n x))) else -2)) ∧ V' = V ∧ S' = S) := by
  refine g_C.of (lv := [some (.ref (g_a G (201))), some (.int (x))]) (by decide +kernel) rfl rfl rfl (Nat.le_of_ble_eq_true rfl) ?_
  have h0 := hO.1.1
  have hn := hO.1.2.1
  have hK := hO.1.2.2.1
  have hX := hO.1.2.2.2.1
  have hA := hO.1.2.2.2.2
  have hH := hO.2.1
  have hW := hO.2.2.1
  have hsp := hO.2.2.2.1
  have hd := hO.2.2.2.2.1
  have htd := hO.2.2.2.2.2
  refine j_aload_n (i := 0) d_M_drowns_0 rfl lg0 ?_
  refine j_iconstN (k := 0) d_M_drowns_1 (by decide) ?_
  refine pf_M_47 d_M_drowns_2 ?_
  rw [g_up_id h0]
  refine j_iload_n (i := 1) d_M_drowns_5 rfl lg1 ?_
  refine cl_M_119 (c_M_noStorm l V S (x)) d_M_drowns_6 rfl rfl (g_ftM (by decide)) (Nat.le_of_ble_eq_true rfl) (g_pu ?_)
  refine j_if_eqB (tgt := 17) d_M_drowns_9 (by decide) (fun h_9 => ?_) (fun h_9 => ?_)
  ·
    have hxs := Classical.not_not.mp h_9
    obtain ⟨k, hk, rfl⟩ := q_in_of hxs (by decide)
    rw [if_pos hxs, q_n_nI (by omega)]
    have hb6 := q_brk_lt (m := 6) (x := k) (s := M_str V 207) hn
    have hE := g_E64 hn
    refine j_aload_n (i := 0) d_M_drowns_17 rfl lg0 ?_
    refine j_aload_n (i := 0) d_M_drowns_18 rfl lg0 ?_
    refine gf_M_25 d_M_drowns_19 ?_
    refine j_aload_n (i := 0) d_M_drowns_22 rfl lg0 ?_
    refine j_aload_n (i := 0) d_M_drowns_23 rfl lg0 ?_
    refine gf_M_25 d_M_drowns_24 ?_
    refine j_iload_n (i := 1) d_M_drowns_27 rfl lg1 ?_
    refine cl_M_105 (c_M_breaksBy l V S (by omega) hK (207) (k) gI_207 hH (by omega)) d_M_drowns_28 rfl rfl (g_ftM (by decide)) (Nat.le_of_ble_eq_true rfl) (g_pu ?_)
    refine cl_M_128 (c_M_drownsBy l V S (by omega) (207) (q_brk (V 201 4) (M_str V (207)) (k)) gI_207 (by omega) (by first | omega | exact hb6)) d_M_drowns_31 rfl rfl (g_ftM (by decide)) (Nat.le_of_ble_eq_true rfl) (g_pu ?_)
    refine j_iret d_M_drowns_34 ⟨rfl, rfl, rfl⟩
  ·
    refine j_bipush (v := -2) d_M_drowns_12 (by decide) ?_
    refine j_goto (tgt := 34) d_M_drowns_14 (by decide) ?_
    refine j_iret d_M_drowns_34 ⟨by rw [if_neg h_9], rfl, rfl⟩
set_option maxRecDepth 4000 in
theorem c_M_loss {G : g_G} (l : Launch) (V : g_V) (S : g_L) (hO : M_OK V) (x : Int32) : g_C G l y_M_loss b_M_loss 2 (some .int) 3 [.ref (g_a G (201)), .int (x)] V S (fun r V' S' => r = some (.int (if q_in x 21 then nI (q_pick (g_cv V 0 1) (g_cv V 4) (q_wet (g_cv V 0 1) (g_cv V (hB 0) 5) (q_brk (g_cv V 0 1) (D_str (g_cv V)) (q_n x)))) else -2)) ∧ V' = V ∧ S' = S) := by
  refine g_C.of (lv := [some (.ref (g_a G (201))), some (.int (x))]) (by decide +kernel) rfl rfl rfl (Nat.le_of_ble_eq_true rfl) ?_
  have h0 := hO.1.1
  have hn := hO.1.2.1
  have hK := hO.1.2.2.1
  have hX := hO.1.2.2.2.1
  have hA := hO.1.2.2.2.2
  have hH := hO.2.1
  have hW := hO.2.2.1
  have hsp := hO.2.2.2.1
  have hd := hO.2.2.2.2.1
  have htd := hO.2.2.2.2.2
  refine j_aload_n (i := 0) d_M_loss_0 rfl lg0 ?_
  refine j_iconstN (k := 0) d_M_loss_1 (by decide) ?_
  refine pf_M_47 d_M_loss_2 ?_
  rw [g_up_id h0]
  refine j_iload_n (i := 1) d_M_loss_5 rfl lg1 ?_
  refine cl_M_119 (c_M_noStorm l V S (x)) d_M_loss_6 rfl rfl (g_ftM (by decide)) (Nat.le_of_ble_eq_true rfl) (g_pu ?_)
  refine j_if_eqB (tgt := 17) d_M_loss_9 (by decide) (fun h_9 => ?_) (fun h_9 => ?_)
  ·
    have hxs := Classical.not_not.mp h_9
    obtain ⟨k, hk, rfl⟩ := q_in_of hxs (by decide)
    rw [if_pos hxs, q_n_nI (by omega)]
    have hb6 := q_brk_lt (m := 6) (x := k) (s := M_str V 207) hn
    have hE := g_E64 hn
    refine j_aload_n (i := 0) d_M_loss_17 rfl lg0 ?_
    refine j_aload_n (i := 0) d_M_loss_18 rfl lg0 ?_
    refine j_aload_n (i := 0) d_M_loss_19 rfl lg0 ?_
    refine gf_M_25 d_M_loss_20 ?_
    refine j_aload_n (i := 0) d_M_loss_23 rfl lg0 ?_
    refine j_aload_n (i := 0) d_M_loss_24 rfl lg0 ?_
    refine gf_M_25 d_M_loss_25 ?_
    refine j_iload_n (i := 1) d_M_loss_28 rfl lg1 ?_
    refine cl_M_105 (c_M_breaksBy l V S (by omega) hK (207) (k) gI_207 hH (by omega)) d_M_loss_29 rfl rfl (g_ftM (by decide)) (Nat.le_of_ble_eq_true rfl) (g_pu ?_)
    refine cl_M_128 (c_M_drownsBy l V S (by omega) (207) (q_brk (V 201 4) (M_str V (207)) (k)) gI_207 (by omega) (by first | omega | exact hb6)) d_M_loss_32 rfl rfl (g_ftM (by decide)) (Nat.le_of_ble_eq_true rfl) (g_pu ?_)
    refine cl_M_131 (c_M_worthOf l V S (by omega) (fun i hi => (hK i hi).2.1) (q_wet (V 201 4) (V (207) 19) (q_brk (V 201 4) (M_str V (207)) (k))) (by first | omega | exact q_wet_lt (by omega) (by first | omega | exact hb6))) d_M_loss_35 rfl rfl (g_ftM (by decide)) (Nat.le_of_ble_eq_true rfl) (g_pu ?_)
    refine j_iret d_M_loss_38 ⟨rfl, rfl, rfl⟩
  ·
    refine j_bipush (v := -2) d_M_loss_12 (by decide) ?_
    refine j_goto (tgt := 38) d_M_loss_14 (by decide) ?_
    refine j_iret d_M_loss_38 ⟨by rw [if_neg h_9], rfl, rfl⟩
set_option maxRecDepth 4000 in
theorem c_M_needs {G : g_G} (l : Launch) (V : g_V) (S : g_L) (hO : M_OK V) (x : Int32) : g_C G l y_M_needs b_M_needs 2 (some .int) 3 [.ref (g_a G (201)), .int (x)] V S (fun r V' S' => r = some (.int (if q_in x 21 then nI (q_lack (g_cv V 0 1) (D_str (g_cv V)) (1 <<< g_cv V 0 1 - 1) (q_n x)) else -2)) ∧ V' = V ∧ S' = S) := by
  refine g_C.of (lv := [some (.ref (g_a G (201))), some (.int (x))]) (by decide +kernel) rfl rfl rfl (Nat.le_of_ble_eq_true rfl) ?_
  have h0 := hO.1.1
  have hn := hO.1.2.1
  have hK := hO.1.2.2.1
  have hX := hO.1.2.2.2.1
  have hA := hO.1.2.2.2.2
  have hH := hO.2.1
  have hW := hO.2.2.1
  have hsp := hO.2.2.2.1
  have hd := hO.2.2.2.2.1
  have htd := hO.2.2.2.2.2
  refine j_aload_n (i := 0) d_M_needs_0 rfl lg0 ?_
  refine j_iconstN (k := 0) d_M_needs_1 (by decide) ?_
  refine pf_M_47 d_M_needs_2 ?_
  rw [g_up_id h0]
  refine j_iload_n (i := 1) d_M_needs_5 rfl lg1 ?_
  refine cl_M_119 (c_M_noStorm l V S (x)) d_M_needs_6 rfl rfl (g_ftM (by decide)) (Nat.le_of_ble_eq_true rfl) (g_pu ?_)
  refine j_if_eqB (tgt := 17) d_M_needs_9 (by decide) (fun h_9 => ?_) (fun h_9 => ?_)
  ·
    have hxs := Classical.not_not.mp h_9
    obtain ⟨k, hk, rfl⟩ := q_in_of hxs (by decide)
    rw [if_pos hxs, q_n_nI (by omega)]
    have hb6 := q_brk_lt (m := 6) (x := k) (s := M_str V 207) hn
    have hE := g_E64 hn
    refine j_aload_n (i := 0) d_M_needs_17 rfl lg0 ?_
    refine j_aload_n (i := 0) d_M_needs_18 rfl lg0 ?_
    refine cl_M_108 (c_M_everyone l V S (by omega)) d_M_needs_19 rfl rfl (g_ftM (by decide)) (Nat.le_of_ble_eq_true rfl) (g_pu ?_)
    refine j_iload_n (i := 1) d_M_needs_22 rfl lg1 ?_
    refine cl_M_134 (c_M_clayFor l V S (by omega) hK hH (1 <<< V 201 4 - 1) (k) (by omega) (by omega)) d_M_needs_23 rfl rfl (g_ftM (by decide)) (Nat.le_of_ble_eq_true rfl) (g_pu ?_)
    refine j_iret d_M_needs_26 ⟨rfl, rfl, rfl⟩
  ·
    refine j_bipush (v := -2) d_M_needs_12 (by decide) ?_
    refine j_goto (tgt := 26) d_M_needs_14 (by decide) ?_
    refine j_iret d_M_needs_26 ⟨by rw [if_neg h_9], rfl, rfl⟩
set_option maxRecDepth 4000 in
theorem c_M_net {G : g_G} (l : Launch) (V : g_V) (S : g_L) (hO : M_OK V) (x : Int32) : g_C G l y_M_net b_M_net 2 (some .int) 3 [.ref (g_a G (201)), .int (x)] V S (fun r V' S' => r = some (.int (if q_in x (g_cv V 0 1) then nI 100 + q_net (D_ow (g_cv V)) (q_n x) (g_cv V 0 1) else -1)) ∧ V' = V ∧ S' = S) := by
  refine g_C.of (lv := [some (.ref (g_a G (201))), some (.int (x))]) (by decide +kernel) rfl rfl rfl (Nat.le_of_ble_eq_true rfl) ?_
  have h0 := hO.1.1
  have hn := hO.1.2.1
  have hK := hO.1.2.2.1
  have hX := hO.1.2.2.2.1
  have hA := hO.1.2.2.2.2
  have hH := hO.2.1
  have hW := hO.2.2.1
  have hsp := hO.2.2.2.1
  have hd := hO.2.2.2.2.1
  have htd := hO.2.2.2.2.2
  refine j_aload_n (i := 0) d_M_net_0 rfl lg0 ?_
  refine j_iconstN (k := 0) d_M_net_1 (by decide) ?_
  refine pf_M_47 d_M_net_2 ?_
  rw [g_up_id h0]
  refine j_aload_n (i := 0) d_M_net_5 rfl lg0 ?_
  refine j_iload_n (i := 1) d_M_net_6 rfl lg1 ?_
  refine cl_M_115 (c_M_noFarm l V S (by omega) (x)) d_M_net_7 rfl rfl (g_ftM (by decide)) (Nat.le_of_ble_eq_true rfl) (g_pu ?_)
  refine j_if_eqB (tgt := 17) d_M_net_10 (by decide) (fun h_10 => ?_) (fun h_10 => ?_)
  ·
    have hxf := Classical.not_not.mp h_10
    obtain ⟨f, hf, rfl⟩ := q_in_of hxf (by omega)
    rw [show g_cv V 0 1 = V 201 4 from rfl, if_pos hxf, q_n_nI (by omega)]
    refine j_bipushN (k := 100) d_M_net_17 (by decide) ?_
    refine j_aload_n (i := 0) d_M_net_19 rfl lg0 ?_
    refine j_iload_n (i := 1) d_M_net_20 rfl lg1 ?_
    refine cl_M_170 (c_M_netOf l V S (by omega) (f) (by omega)) d_M_net_21 rfl rfl (g_ftM (by decide)) (Nat.le_of_ble_eq_true rfl) (g_pu ?_)
    refine j_iadd d_M_net_24 ?_
    refine j_iret d_M_net_25 ⟨by rw [cv_net (by omega) hn]; rfl, rfl, rfl⟩
  ·
    refine j_iconst (v := -1) d_M_net_13 (by decide) ?_
    refine j_goto (tgt := 25) d_M_net_14 (by decide) ?_
    refine j_iret d_M_net_25 ⟨by rw [show g_cv V 0 1 = V 201 4 from rfl, if_neg h_10], rfl, rfl⟩
set_option maxRecDepth 4000 in
theorem lp_M_all {G : g_G} (l : Launch) (V : g_V) (S : g_L) (hn : V 201 4 ≤ 6) (hK : M_K V) (hd : V 207 19 < 64) : ∀ (n : Nat) (i : Nat) (b m : Int32), (i ≤ V 201 4) → (b = q_allb (q_all (D_lone (g_cv V)) i)) → (m = q_allm (-9) (q_all (D_lone (g_cv V)) i)) → V 201 4 - i < n → JW G (g_M G l 3 (some .int) (fun r V' S' => r = some (.int (q_allb (q_all (D_lone (g_cv V)) (V 201 4)))) ∧ V' = V ∧ S' = S)) b_M_all R_M 13 [some (.ref (g_a G (201))), some (.int (b)), some (.int (m)), some (.int (nI (i))), none] [] V S := by
  intro n
  induction n with
  | zero => intro i b m hi hb hm9 hm; exact absurd hm (Nat.not_lt_zero _)
  | succ n ih =>
    intro i b m hi hb hm9 hm
    refine j_iload_n (i := 3) d_M_all_13 rfl lg3 ?_
    refine j_aload_n (i := 0) d_M_all_14 rfl lg0 ?_
    refine gf_M_51 d_M_all_15 ?_
    refine j_icmp_geN (tgt := 69) d_M_all_18 (by decide) (by omega) (by omega) (fun h_18 => ?_) (fun h_18 => ?_)
    ·
      refine j_iload_n (i := 1) d_M_all_69 rfl lg1 ?_
      refine j_iret d_M_all_70 ⟨by rw [hb, show i = V 201 4 by omega], rfl, rfl⟩
    ·
      refine j_aload_n (i := 0) d_M_all_21 rfl lg0 ?_
      refine j_aload_n (i := 0) d_M_all_22 rfl lg0 ?_
      refine j_aload_n (i := 0) d_M_all_23 rfl lg0 ?_
      refine gf_M_25 d_M_all_24 ?_
      refine j_iconstN (k := 1) d_M_all_27 (by decide) ?_
      have hb6 := q_bit_lt (k := i) (m := 6) (by omega)
      refine j_iload_n (i := 3) d_M_all_28 rfl lg3 ?_
      refine j_ishlN d_M_all_29 (by omega) ?_
      refine cl_M_128 (c_M_drownsBy l V S (by omega) (207) (1 <<< i) gI_207 (by omega) (by first | omega | exact hb6)) d_M_all_30 rfl rfl (g_ftM (by decide)) (Nat.le_of_ble_eq_true rfl) (g_pu ?_)
      refine cl_M_131 (c_M_worthOf l V S (by omega) (fun i hi => (hK i hi).2.1) (q_wet (V 201 4) (V (207) 19) (1 <<< i)) (by first | omega | exact q_wet_lt (by omega) (by first | omega | exact hb6))) d_M_all_33 rfl rfl (g_ftM (by decide)) (Nat.le_of_ble_eq_true rfl) (g_pu ?_)
      rw [show q_pick (V 201 4) (V 204) (q_wet (V 201 4) (V (207) 19) (1 <<< i)) = D_lone (g_cv V) i from rfl]
      refine j_istore d_M_all_36 ls4i ?_
      refine j_iload d_M_all_38 lg4 ?_
      refine j_iload_n (i := 2) d_M_all_40 rfl lg2 ?_
      refine j_icmp_le (tgt := 48) d_M_all_41 (by decide) (fun h_41 => ?_) (fun h_41 => ?_)
      ·
        refine j_iload_n (i := 1) d_M_all_48 rfl lg1 ?_
        refine j_istore_n d_M_all_49 rfl ls1r ?_
        refine j_iload d_M_all_50 lg4 ?_
        refine j_iload_n (i := 2) d_M_all_52 rfl lg2 ?_
        refine j_icmp_le (tgt := 61) d_M_all_53 (by decide) (fun h_53 => ?_) (fun h_53 => ?_)
        ·
          refine j_iload_n (i := 2) d_M_all_61 rfl lg2 ?_
          refine j_istore_n d_M_all_62 rfl ls2i ?_
          refine j_iincN (k := 1) d_M_all_63 lg3 (by decide) ls3i ?_
          refine j_goto (tgt := 13) d_M_all_66 (by decide) ?_
          have hq := q_all_f (by decide) (by decide) (D_lone_le (V := g_cv V) hn (cv_K hK)) (show ¬ q_allm (-9) _ < nI (D_lone (g_cv V) i) from hm9 ▸ (fun q => absurd q (by rw [Int32.lt_iff_toInt_lt]; rw [Int32.le_iff_toInt_le] at h_41; exact Int.not_lt.mpr h_41)))
          exact j_fg 4 (ih (i + 1) _ _ (by omega) (by rw [hb, hq]) (by rw [hm9, hq]) (by omega))
        ·
          refine j_iload d_M_all_56 lg4 ?_
          refine j_goto (tgt := 62) d_M_all_58 (by decide) ?_
          refine j_istore_n d_M_all_62 rfl ls2i ?_
          refine j_iincN (k := 1) d_M_all_63 lg3 (by decide) ls3i ?_
          refine j_goto (tgt := 13) d_M_all_66 (by decide) ?_
          exact absurd h_41 h_53
      ·
        refine j_iload_n (i := 3) d_M_all_44 rfl lg3 ?_
        refine j_goto (tgt := 49) d_M_all_45 (by decide) ?_
        refine j_istore_n d_M_all_49 rfl ls1r ?_
        refine j_iload d_M_all_50 lg4 ?_
        refine j_iload_n (i := 2) d_M_all_52 rfl lg2 ?_
        refine j_icmp_le (tgt := 61) d_M_all_53 (by decide) (fun h_53 => ?_) (fun h_53 => ?_)
        ·
          refine j_iload_n (i := 2) d_M_all_61 rfl lg2 ?_
          refine j_istore_n d_M_all_62 rfl ls2i ?_
          refine j_iincN (k := 1) d_M_all_63 lg3 (by decide) ls3i ?_
          refine j_goto (tgt := 13) d_M_all_66 (by decide) ?_
          exact absurd h_53 h_41
        ·
          refine j_iload d_M_all_56 lg4 ?_
          refine j_goto (tgt := 62) d_M_all_58 (by decide) ?_
          refine j_istore_n d_M_all_62 rfl ls2i ?_
          refine j_iincN (k := 1) d_M_all_63 lg3 (by decide) ls3i ?_
          refine j_goto (tgt := 13) d_M_all_66 (by decide) ?_
          have hq := q_all_t (by decide) (by decide) (D_lone_le (V := g_cv V) hn (cv_K hK)) (show q_allm (-9) _ < nI (D_lone (g_cv V) i) by rw [← hm9]; exact g_nle h_41)
          exact j_fg 4 (ih (i + 1) _ _ (by omega) (by rw [hq]; rfl) (by rw [hq]; rfl) (by omega))
set_option maxRecDepth 4000 in
theorem c_M_all {G : g_G} (l : Launch) (V : g_V) (S : g_L) (hO : M_OK V) : g_C G l y_M_all b_M_all 5 (some .int) 3 [.ref (g_a G (201))] V S (fun r V' S' => r = some (.int (q_allb (q_all (D_lone (g_cv V)) (g_cv V 0 1)))) ∧ V' = V ∧ S' = S) := by
  refine g_C.of (lv := [some (.ref (g_a G (201))), none, none, none, none]) (by decide +kernel) rfl rfl rfl (Nat.le_of_ble_eq_true rfl) ?_
  have h0 := hO.1.1
  have hn := hO.1.2.1
  have hK := hO.1.2.2.1
  have hX := hO.1.2.2.2.1
  have hA := hO.1.2.2.2.2
  have hH := hO.2.1
  have hW := hO.2.2.1
  have hsp := hO.2.2.2.1
  have hd := hO.2.2.2.2.1
  have htd := hO.2.2.2.2.2
  refine j_aload_n (i := 0) d_M_all_0 rfl lg0 ?_
  refine j_iconstN (k := 0) d_M_all_1 (by decide) ?_
  refine pf_M_47 d_M_all_2 ?_
  rw [g_up_id h0]
  refine j_bipush (v := -9) d_M_all_5 (by decide) ?_
  refine j_istore_n d_M_all_7 rfl ls1r ?_
  refine j_bipush (v := -9) d_M_all_8 (by decide) ?_
  refine j_istore_n d_M_all_10 rfl ls2i ?_
  refine j_iconstN (k := 0) d_M_all_11 (by decide) ?_
  refine j_istore_n d_M_all_12 rfl ls3i ?_
  exact j_fg 4 (lp_M_all l V S hn hK hd _ 0 (-9) (-9) (by omega) rfl rfl (Nat.lt_succ_self _))
set_option maxRecDepth 4000 in
theorem c_M_placing {G : g_G} (l : Launch) (V : g_V) (S : g_L) (hO : M_OK V) (n x w : Int32) : g_C G l y_M_placing b_M_placing 4 (some .int) 4 [.ref (g_a G (201)), .int (n), .int (x), .int (w)] V S (fun r V' S' => S' = S ∧ r = some (.int (if q_in n 61 ∧ q_in x 21 ∧ q_in w 2 then (if w = 0 then nI (D_lw (g_cv V) (D_best (g_cv V) (q_n x) (q_n n))) else nI (D_best (g_cv V) (q_n x) (q_n n))) else -2)) ∧ ∃ a b, V' = g_up (g_up V 201 18 a) 201 19 b) := by
  refine g_C.of (lv := [some (.ref (g_a G (201))), some (.int (n)), some (.int (x)), some (.int (w))]) (by decide +kernel) rfl rfl rfl (Nat.le_of_ble_eq_true rfl) ?_
  have h0 := hO.1.1
  have hn := hO.1.2.1
  have hK := hO.1.2.2.1
  have hX := hO.1.2.2.2.1
  have hA := hO.1.2.2.2.2
  have hH := hO.2.1
  have hW := hO.2.2.1
  have hsp := hO.2.2.2.1
  have hd := hO.2.2.2.2.1
  have htd := hO.2.2.2.2.2
  refine j_aload_n (i := 0) d_M_placing_0 rfl lg0 ?_
  refine j_iconstN (k := 0) d_M_placing_1 (by decide) ?_
  refine pf_M_47 d_M_placing_2 ?_
  rw [g_up_id h0]
  refine j_iload_n (i := 1) d_M_placing_5 rfl lg1 ?_
  refine j_i2l d_M_placing_6 ?_
  refine j_lconst (v := 0) d_M_placing_7 rfl ?_
  refine j_ldc2 (v := 60) d_M_placing_8 (g_use (List.mem_of_getElem? (i := 696) (by decide +kernel)) rfl) ?_
  refine cl_M_54 (c_M_in l V S ((n).toInt64) (0) (60)) d_M_placing_11 rfl rfl (g_ftM (by decide)) (Nat.le_of_ble_eq_true rfl) (g_pu ?_)
  refine j_if_eqB (tgt := 34) d_M_placing_14 (by decide) (fun h_14 => ?_) (fun h_14 => ?_)
  ·
    refine j_bipush (v := -2) d_M_placing_34 (by decide) ?_
    refine j_iret d_M_placing_36 ⟨rfl, by rw [if_neg (fun q => by first | exact h_14 ((q_rng_in (k := 60) (by decide)).mpr q.1) | exact h_21 q.2.1 | exact h_31 ((q_rng_in (k := 1) (by decide)).mpr q.2.2))], V 201 18, V 201 19, by rw [g_up_id rfl, g_up_id rfl]⟩
  ·
    refine j_iload_n (i := 2) d_M_placing_17 rfl lg2 ?_
    refine cl_M_119 (c_M_noStorm l V S (x)) d_M_placing_18 rfl rfl (g_ftM (by decide)) (Nat.le_of_ble_eq_true rfl) (g_pu ?_)
    refine j_if_neB (tgt := 34) d_M_placing_21 (by decide) (fun h_21 => ?_) (fun h_21 => ?_)
    ·
      refine j_bipush (v := -2) d_M_placing_34 (by decide) ?_
      refine j_iret d_M_placing_36 ⟨rfl, by rw [if_neg (fun q => by first | exact h_14 ((q_rng_in (k := 60) (by decide)).mpr q.1) | exact h_21 q.2.1 | exact h_31 ((q_rng_in (k := 1) (by decide)).mpr q.2.2))], V 201 18, V 201 19, by rw [g_up_id rfl, g_up_id rfl]⟩
    ·
      refine j_iload_n (i := 3) d_M_placing_24 rfl lg3 ?_
      refine j_i2l d_M_placing_25 ?_
      refine j_lconst (v := 0) d_M_placing_26 rfl ?_
      refine j_lconst (v := 1) d_M_placing_27 rfl ?_
      refine cl_M_54 (c_M_in l V S ((w).toInt64) (0) (1)) d_M_placing_28 rfl rfl (g_ftM (by decide)) (Nat.le_of_ble_eq_true rfl) (g_pu ?_)
      refine j_if_neB (tgt := 37) d_M_placing_31 (by decide) (fun h_31 => ?_) (fun h_31 => ?_)
      ·
        have hxs := Classical.not_not.mp h_21
        have hnn := (q_rng_in (k := 60) (by decide)).mp h_14
        have hww := (q_rng_in (k := 1) (by decide)).mp h_31
        rw [if_pos ⟨hnn, hxs, hww⟩]
        obtain ⟨c, hc, rfl⟩ := q_in_of hnn (by decide)
        obtain ⟨k, hk, rfl⟩ := q_in_of hxs (by decide)
        obtain ⟨v, hv, rfl⟩ := q_in_of hww (by decide)
        rw [q_n_nI (by omega), q_n_nI (by omega)]
        refine j_aload_n (i := 0) d_M_placing_37 rfl lg0 ?_
        refine j_iload_n (i := 1) d_M_placing_38 rfl lg1 ?_
        refine j_iload_n (i := 2) d_M_placing_39 rfl lg2 ?_
        refine cl_M_145 (c_M_findPlacing l V S (by omega) hK hH hd (c) (k) (by omega) (by omega)) d_M_placing_40 rfl rfl (g_ftM (by decide)) (Nat.le_of_ble_eq_true rfl) (g_pw ?_)
        refine j_iload_n (i := 3) d_M_placing_43 rfl lg3 ?_
        refine j_if_neN (tgt := 54) d_M_placing_44 (by decide) (by omega) (fun h_44 => ?_) (fun h_44 => ?_)
        ·
          refine j_aload_n (i := 0) d_M_placing_54 rfl lg0 ?_
          refine gf_M_140 d_M_placing_55 ?_
          refine j_eqv (b := D_best (g_cv V) (k) (c)) (by rw [g_upS]) ?_
          refine j_iret d_M_placing_58 ⟨rfl, by rw [if_neg (show ¬ nI v = 0 from fun q => h_44 ((nI_eq (by omega) (by decide)).mp (q.trans nI_0.symm)))], _, _, rfl⟩
        ·
          refine j_aload_n (i := 0) d_M_placing_47 rfl lg0 ?_
          refine gf_M_137 d_M_placing_48 ?_
          refine j_eqv (b := D_lw (g_cv V) (D_best (g_cv V) (k) (c))) (by rw [g_upK (by decide), g_upS]) ?_
          refine j_goto (tgt := 58) d_M_placing_51 (by decide) ?_
          refine j_iret d_M_placing_58 ⟨rfl, by rw [if_pos (show nI v = 0 by rw [h_44]; rfl)], _, _, rfl⟩
      ·
        refine j_bipush (v := -2) d_M_placing_34 (by decide) ?_
        refine j_iret d_M_placing_36 ⟨rfl, by rw [if_neg (fun q => by first | exact h_14 ((q_rng_in (k := 60) (by decide)).mpr q.1) | exact h_21 q.2.1 | exact h_31 ((q_rng_in (k := 1) (by decide)).mpr q.2.2))], V 201 18, V 201 19, by rw [g_up_id rfl, g_up_id rfl]⟩
