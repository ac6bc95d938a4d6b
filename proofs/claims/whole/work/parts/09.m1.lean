/-! The class: its small methods. -/
set_option maxRecDepth 4000 in
theorem c_D_bit {G : g_G} (l : Launch) (V : g_V) (S : g_L) (k : Nat) (hk : k < 32) : g_C G l y_D_bit b_D_bit 1 (some .int) 1 [.int (nI (k))] V S (fun r V' S' => r = some (.int (nI (1 <<< k))) ∧ V' = V ∧ S' = S) := by
  refine g_C.of (lv := [some (.int (nI (k)))]) (by decide +kernel) rfl rfl rfl (Nat.le_of_ble_eq_true rfl) ?_
  refine j_iconstN (k := 1) d_D_bit_0 (by decide) ?_
  refine j_iload_n (i := 0) d_D_bit_1 rfl lg0 ?_
  refine j_ishlN d_D_bit_2 (by omega) ?_
  refine j_iret d_D_bit_3 ⟨rfl, rfl, rfl⟩
set_option maxRecDepth 4000 in
theorem c_D_has {G : g_G} (l : Launch) (V : g_V) (S : g_L) (b k : Nat) (hb : b < 2 ^ 31) (hk : k < 32) : g_C G l y_D_has b_D_has 2 (some .boolean) 1 [.int (nI (b)), .int (nI (k))] V S (fun r V' S' => r = some (.int (nI (g_z (decide (b.testBit k = true))))) ∧ V' = V ∧ S' = S) := by
  refine g_C.of (lv := [some (.int (nI (b))), some (.int (nI (k)))]) (by decide +kernel) rfl rfl rfl (Nat.le_of_ble_eq_true rfl) ?_
  refine j_iload_n (i := 0) d_D_has_0 rfl lg0 ?_
  refine j_iload_n (i := 1) d_D_has_1 rfl lg1 ?_
  refine j_ishrN d_D_has_2 (by omega) (by omega) ?_
  refine j_iconstN (k := 1) d_D_has_3 (by decide) ?_
  refine j_iandN d_D_has_4 ?_
  refine j_if_eqN (tgt := 12) d_D_has_5 (by decide) (Nat.lt_of_le_of_lt Nat.and_le_right (by decide)) (fun h_5 => ?_) (fun h_5 => ?_)
  ·
    refine j_iconstN (k := 0) d_D_has_12 (by decide) ?_
    refine j_zret d_D_has_13 (by decide) ⟨g_z0 (q_tb.mp h_5), rfl, rfl⟩
  ·
    refine j_iconstN (k := 1) d_D_has_8 (by decide) ?_
    refine j_goto (tgt := 13) d_D_has_9 (by decide) ?_
    refine j_zret d_D_has_13 (by decide) ⟨g_z1 (q_tb1.mp h_5), rfl, rfl⟩
set_option maxRecDepth 4000 in
theorem c_D_isStorm {G : g_G} (l : Launch) (V : g_V) (S : g_L) (x : Int32) : g_C G l y_D_isStorm b_D_isStorm 1 (some .boolean) 1 [.int (x)] V S (fun r V' S' => r = some (.int (nI (g_z (decide (q_in x 21))))) ∧ V' = V ∧ S' = S) := by
  refine g_C.of (lv := [some (.int (x))]) (by decide +kernel) rfl rfl rfl (Nat.le_of_ble_eq_true rfl) ?_
  refine j_iload_n (i := 0) d_D_isStorm_0 rfl lg0 ?_
  refine j_if_lt (tgt := 14) d_D_isStorm_1 (by decide) (fun h_1 => ?_) (fun h_1 => ?_)
  ·
    refine j_iconstN (k := 0) d_D_isStorm_14 (by decide) ?_
    refine j_zret d_D_isStorm_15 (by decide) ⟨g_z0 (fun q => by rw [Int32.lt_iff_toInt_lt, Int32.toInt_zero] at h_1; exact absurd q.1 (Int.not_le.mpr h_1)), rfl, rfl⟩
  ·
    refine j_iload_n (i := 0) d_D_isStorm_4 rfl lg0 ?_
    refine j_bipushN (k := 20) d_D_isStorm_5 (by decide) ?_
    refine j_icmp_gt (tgt := 14) d_D_isStorm_7 (by decide) (fun h_7 => ?_) (fun h_7 => ?_)
    ·
      refine j_iconstN (k := 0) d_D_isStorm_14 (by decide) ?_
      refine j_zret d_D_isStorm_15 (by decide) ⟨g_z0 (fun q => by rw [Int32.lt_iff_toInt_lt, nI_toInt (by decide)] at h_7; have := q.2; omega), rfl, rfl⟩
    ·
      refine j_iconstN (k := 1) d_D_isStorm_10 (by decide) ?_
      refine j_goto (tgt := 15) d_D_isStorm_11 (by decide) ?_
      refine j_zret d_D_isStorm_15 (by decide) ⟨g_z1 (by rw [Int32.lt_iff_toInt_lt, Int32.toInt_zero] at h_1; rw [Int32.lt_iff_toInt_lt, nI_toInt (by decide)] at h_7; exact ⟨by omega, by omega⟩), rfl, rfl⟩
set_option maxRecDepth 4000 in
theorem c_D_isFarm {G : g_G} (l : Launch) (V : g_V) (S : g_L) (hn : V 0 1 ≤ 6) (x : Int32) : g_C G l y_D_isFarm b_D_isFarm 2 (some .boolean) 1 [.ref (g_a G (0)), .int (x)] V S (fun r V' S' => r = some (.int (nI (g_z (decide (q_in x (V 0 1)))))) ∧ V' = V ∧ S' = S) := by
  refine g_C.of (lv := [some (.ref (g_a G (0))), some (.int (x))]) (by decide +kernel) rfl rfl rfl (Nat.le_of_ble_eq_true rfl) ?_
  refine j_iload_n (i := 1) d_D_isFarm_0 rfl lg1 ?_
  refine j_if_lt (tgt := 16) d_D_isFarm_1 (by decide) (fun h_1 => ?_) (fun h_1 => ?_)
  ·
    refine j_iconstN (k := 0) d_D_isFarm_16 (by decide) ?_
    refine j_zret d_D_isFarm_17 (by decide) ⟨g_z0 (fun q => by rw [Int32.lt_iff_toInt_lt, Int32.toInt_zero] at h_1; exact absurd q.1 (Int.not_le.mpr h_1)), rfl, rfl⟩
  ·
    refine j_iload_n (i := 1) d_D_isFarm_4 rfl lg1 ?_
    refine j_aload_n (i := 0) d_D_isFarm_5 rfl lg0 ?_
    refine gf_D_69 d_D_isFarm_6 ?_
    refine j_icmp_ge (tgt := 16) d_D_isFarm_9 (by decide) (fun h_9 => ?_) (fun h_9 => ?_)
    ·
      refine j_iconstN (k := 0) d_D_isFarm_16 (by decide) ?_
      refine j_zret d_D_isFarm_17 (by decide) ⟨g_z0 (fun q => by rw [Int32.le_iff_toInt_le, nI_toInt (by omega)] at h_9; have := q.2; omega), rfl, rfl⟩
    ·
      refine j_iconstN (k := 1) d_D_isFarm_12 (by decide) ?_
      refine j_goto (tgt := 17) d_D_isFarm_13 (by decide) ?_
      refine j_zret d_D_isFarm_17 (by decide) ⟨g_z1 (by rw [Int32.lt_iff_toInt_lt, Int32.toInt_zero] at h_1; rw [Int32.le_iff_toInt_le, nI_toInt (by omega)] at h_9; exact ⟨by omega, by omega⟩), rfl, rfl⟩
set_option maxRecDepth 4000 in
theorem c_D_everyFarm {G : g_G} (l : Launch) (V : g_V) (S : g_L) (hn : V 0 1 ≤ 6) : g_C G l y_D_everyFarm b_D_everyFarm 1 (some .int) 1 [.ref (g_a G (0))] V S (fun r V' S' => r = some (.int (nI (1 <<< V 0 1 - 1))) ∧ V' = V ∧ S' = S) := by
  refine g_C.of (lv := [some (.ref (g_a G (0)))]) (by decide +kernel) rfl rfl rfl (Nat.le_of_ble_eq_true rfl) ?_
  refine j_iconstN (k := 1) d_D_everyFarm_0 (by decide) ?_
  refine j_aload_n (i := 0) d_D_everyFarm_1 rfl lg0 ?_
  refine gf_D_69 d_D_everyFarm_2 ?_
  refine j_ishlN d_D_everyFarm_5 (by omega) ?_
  refine j_iconstN (k := 1) d_D_everyFarm_6 (by decide) ?_
  refine j_isubN d_D_everyFarm_7 (Nat.one_shiftLeft _ ▸ Nat.two_pow_pos _) ?_
  refine j_iret d_D_everyFarm_8 ⟨rfl, rfl, rfl⟩
set_option maxRecDepth 4000 in
theorem c_D_actRow {G : g_G} (l : Launch) (V : g_V) (S : g_L) (hf : V 0 7 < 14) (a : Nat) (ha : a < 1000) : g_C G l y_D_actRow b_D_actRow 2 (some .int) 1 [.ref (g_a G (0)), .int (nI (a))] V S (fun r V' S' => r = some (.int (nI ((V 0 7 + a) % 14))) ∧ V' = V ∧ S' = S) := by
  refine g_C.of (lv := [some (.ref (g_a G (0))), some (.int (nI (a)))]) (by decide +kernel) rfl rfl rfl (Nat.le_of_ble_eq_true rfl) ?_
  refine j_aload_n (i := 0) d_D_actRow_0 rfl lg0 ?_
  refine gf_D_224 d_D_actRow_1 ?_
  refine j_iload_n (i := 1) d_D_actRow_4 rfl lg1 ?_
  refine j_iaddN d_D_actRow_5 ?_
  refine j_bipushN (k := 14) d_D_actRow_6 (by decide) ?_
  refine j_iremN d_D_actRow_8 (by omega) (by omega) (by omega) ?_
  refine j_iret d_D_actRow_9 ⟨rfl, rfl, rfl⟩
set_option maxRecDepth 4000 in
theorem c_D_strengthAt {G : g_G} (l : Launch) (V : g_V) (S : g_L) (s h : Nat) (hs : s < 6) (hk : V 5 s ≤ 3) : g_C G l y_D_strengthAt b_D_strengthAt 3 (some .int) 1 [.ref (g_a G (0)), .int (nI (s)), .int (nI (h))] V S (fun r V' S' => r = some (.int (nI (q_str (V 5 s) (V 3 s) h))) ∧ V' = V ∧ S' = S) := by
  refine g_C.of (lv := [some (.ref (g_a G (0))), some (.int (nI (s))), some (.int (nI (h)))]) (by decide +kernel) rfl rfl rfl (Nat.le_of_ble_eq_true rfl) ?_
  refine j_aload_n (i := 0) d_D_strengthAt_0 rfl lg0 ?_
  refine gf_D_23 d_D_strengthAt_1 ?_
  refine j_iload_n (i := 1) d_D_strengthAt_4 rfl lg1 ?_
  refine j_iald d_D_strengthAt_5 gI_5 (by omega) ?_
  have hs_6 : (nI (V (5) (s))).toInt = ((V (5) (s) : Nat) : Int) := nI_toInt (by omega)
  by_cases h_6_1 : V (5) (s) = 1
  ·
    refine j_tableIn (tgt := 32) d_D_strengthAt_6 (by rw [hs_6, h_6_1]; decide) (by rw [hs_6, h_6_1]; decide) (by rw [hs_6, h_6_1]; rfl) (by decide) ?_
    refine j_iload_n (i := 2) d_D_strengthAt_32 rfl lg2 ?_
    refine j_iret d_D_strengthAt_33 ⟨by simp [q_str, *], rfl, rfl⟩
  by_cases h_6_2 : V (5) (s) = 2
  ·
    refine j_tableIn (tgt := 34) d_D_strengthAt_6 (by rw [hs_6, h_6_2]; decide) (by rw [hs_6, h_6_2]; decide) (by rw [hs_6, h_6_2]; rfl) (by decide) ?_
    refine j_iload_n (i := 2) d_D_strengthAt_34 rfl lg2 ?_
    refine j_iconstN (k := 2) d_D_strengthAt_35 (by decide) ?_
    refine j_aload_n (i := 0) d_D_strengthAt_36 rfl lg0 ?_
    refine gf_D_16 d_D_strengthAt_37 ?_
    refine j_iload_n (i := 1) d_D_strengthAt_40 rfl lg1 ?_
    refine j_iald d_D_strengthAt_41 gI_3 (by omega) ?_
    refine j_imulN d_D_strengthAt_42 ?_
    refine j_iaddN d_D_strengthAt_43 ?_
    refine j_iret d_D_strengthAt_44 ⟨by simp [q_str, *], rfl, rfl⟩
  by_cases h_6_3 : V (5) (s) = 3
  ·
    refine j_tableIn (tgt := 45) d_D_strengthAt_6 (by rw [hs_6, h_6_3]; decide) (by rw [hs_6, h_6_3]; decide) (by rw [hs_6, h_6_3]; rfl) (by decide) ?_
    refine j_iload_n (i := 2) d_D_strengthAt_45 rfl lg2 ?_
    refine j_aload_n (i := 0) d_D_strengthAt_46 rfl lg0 ?_
    refine gf_D_16 d_D_strengthAt_47 ?_
    refine j_iload_n (i := 1) d_D_strengthAt_50 rfl lg1 ?_
    refine j_iald d_D_strengthAt_51 gI_3 (by omega) ?_
    refine j_iaddN d_D_strengthAt_52 ?_
    refine j_iconstN (k := 2) d_D_strengthAt_53 (by decide) ?_
    refine j_iaddN d_D_strengthAt_54 ?_
    refine j_iret d_D_strengthAt_55 ⟨by simp [q_str, *], rfl, rfl⟩
  refine j_tableOut (tgt := 56) d_D_strengthAt_6 (by rw [hs_6]; omega) (by decide) ?_
  refine j_iload_n (i := 2) d_D_strengthAt_56 rfl lg2 ?_
  refine j_aload_n (i := 0) d_D_strengthAt_57 rfl lg0 ?_
  refine gf_D_16 d_D_strengthAt_58 ?_
  refine j_iload_n (i := 1) d_D_strengthAt_61 rfl lg1 ?_
  refine j_iald d_D_strengthAt_62 gI_3 (by omega) ?_
  refine j_iaddN d_D_strengthAt_63 ?_
  refine j_iret d_D_strengthAt_64 ⟨by simp [q_str, *], rfl, rfl⟩
theorem q_str_lt {k g h : Nat} (hg : g ≤ 3) (hh : h ≤ 1000) : q_str k g h < 2000 := by unfold q_str; split <;> (try split) <;> (try split) <;> omega
def g_K (V : g_V) : Prop := ∀ i, i < 6 → V 3 i ≤ 3 ∧ V 4 i ≤ 9 ∧ V 5 i ≤ 3
theorem g_max0 {h : Nat} (hh : h ≤ 15) : (if nI h - nI 1 < nI 0 then nI 0 else nI h - nI 1) = nI (h - 1) := by
  rcases Nat.eq_zero_or_pos h with rfl | h0
  · decide
  · rw [nI_sub h0, if_neg (nI_nlt (Nat.zero_le _) (by omega))]
set_option maxRecDepth 4000 in
theorem c_D_heightBehind {G : g_G} (l : Launch) (V : g_V) (S : g_L) (hK : g_K V) (s h x : Nat) (hs : s < 6) (hh : h ≤ 15) (hx : x ≤ 20) : g_C G l y_D_heightBehind b_D_heightBehind 5 (some .int) 2 [.ref (g_a G (0)), .int (nI (s)), .int (nI (h)), .int (nI (x))] V S (fun r V' S' => r = some (.int (nI (q_bh (q_str (V 5 s) (V 3 s) h) h x))) ∧ V' = V ∧ S' = S) := by
  refine g_C.of (lv := [some (.ref (g_a G (0))), some (.int (nI (s))), some (.int (nI (h))), some (.int (nI (x))), none]) (by decide +kernel) rfl rfl rfl (Nat.le_of_ble_eq_true rfl) ?_
  have hq := q_str_lt (k := V 5 s) (g := V 3 s) (h := h) (hK s hs).1 (by omega)
  refine j_aload_n (i := 0) d_D_heightBehind_0 rfl lg0 ?_
  refine j_iload_n (i := 1) d_D_heightBehind_1 rfl lg1 ?_
  refine j_iload_n (i := 2) d_D_heightBehind_2 rfl lg2 ?_
  refine cl_D_126 (c_D_strengthAt l V S (s) (h) (by omega) (hK (s) (by omega)).2.2) d_D_heightBehind_3 rfl rfl (g_ftM (by decide)) (Nat.le_of_ble_eq_true rfl) (g_pu ?_)
  refine j_istore d_D_heightBehind_6 ls4i ?_
  refine j_iload_n (i := 3) d_D_heightBehind_8 rfl lg3 ?_
  refine j_iload d_D_heightBehind_9 lg4 ?_
  refine j_icmp_leN (tgt := 16) d_D_heightBehind_11 (by decide) (by omega) (by omega) (fun h_11 => ?_) (fun h_11 => ?_)
  ·
    refine j_iload_n (i := 3) d_D_heightBehind_16 rfl lg3 ?_
    refine j_iload d_D_heightBehind_17 lg4 ?_
    refine j_icmp_neN (tgt := 32) d_D_heightBehind_19 (by decide) (by omega) (by omega) (fun h_19 => ?_) (fun h_19 => ?_)
    ·
      refine j_iload_n (i := 2) d_D_heightBehind_32 rfl lg2 ?_
      refine j_iret d_D_heightBehind_33 ⟨by unfold q_bh; rw [if_neg (by omega), if_neg (by omega)], rfl, rfl⟩
    ·
      refine j_iload_n (i := 2) d_D_heightBehind_22 rfl lg2 ?_
      refine j_iconstN (k := 1) d_D_heightBehind_23 (by decide) ?_
      refine j_isub d_D_heightBehind_24 ?_
      refine j_iconstN (k := 0) d_D_heightBehind_25 (by decide) ?_
      refine cm_D_227 d_D_heightBehind_26 (g_ftM (by decide)) (Nat.le_of_ble_eq_true rfl) ?_
      refine j_goto (tgt := 33) d_D_heightBehind_29 (by decide) ?_
      refine j_iret d_D_heightBehind_33 ⟨by rw [g_max0 hh]; unfold q_bh; rw [if_neg (by omega), if_pos h_19], rfl, rfl⟩
  ·
    refine j_iconstN (k := 0) d_D_heightBehind_14 (by decide) ?_
    refine j_iret d_D_heightBehind_15 ⟨by unfold q_bh; rw [if_pos h_11], rfl, rfl⟩
