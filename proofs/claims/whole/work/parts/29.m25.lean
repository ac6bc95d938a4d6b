/-! The reference: wet, threes, told, winters. -/
theorem q_rng_u {x : Int32} {n : Nat} (hn : n ≤ 1000) : q_rng x.toInt64 0 (nI n).toInt64 ↔ q_in x (n + 1) :=
  q_rng_in (by rw [Int32.toInt_toInt64, nI_toInt (by omega)])
theorem q_rng_15 {x : Int32} : q_rng x.toInt64 1 5 ↔ q_15 x := by
  unfold q_rng q_15
  rw [Int64.le_iff_toInt_le, Int64.le_iff_toInt_le, Int32.toInt_toInt64, show (1 : Int64).toInt = 1 from by decide, show (5 : Int64).toInt = 5 from by decide]
theorem q_rng_120 {x : Int32} : q_rng x.toInt64 1 20 ↔ q_120 x := by
  unfold q_rng q_120
  rw [Int64.le_iff_toInt_le, Int64.le_iff_toInt_le, Int32.toInt_toInt64, show (1 : Int64).toInt = 1 from by decide, show (20 : Int64).toInt = 20 from by decide]
set_option maxRecDepth 4000 in
theorem lp_M_wet {G : g_G} (l : Launch) (V : g_V) (S : g_L) (hO : M_OK V) (c w : Nat) (hc : c < 64) (hw3 : w < 3) : ∀ (n : Nat) (i : Nat), (i ≤ 1 <<< V 201 4) → 1 <<< V 201 4 - i < n → JW G (g_M G l 3 (some .int) (fun r V' S' => r = some (.int (D_wetr (g_cv V) c (nI w))) ∧ V' = V ∧ S' = S)) b_M_wet R_M 48 [some (.ref (g_a G (201))), some (.int (nI (c))), some (.int (nI (w))), some (.int (nI (q_cnt (D_wt (g_cv V)) c i))), some (.int (nI (q_alw (D_wt (g_cv V)) c (1 <<< V 201 4 - 1) i))), some (.int (nI (q_evr (D_wt (g_cv V)) c i))), some (.int (nI (i)))] [] V S := by
  intro n
  induction n with
  | zero => intro i hi hm; exact absurd hm (Nat.not_lt_zero _)
  | succ n ih =>
    intro i hi hm
    have h0 := hO.1.1
    have hn := hO.1.2.1
    have hK := hO.1.2.2.1
    have hX := hO.1.2.2.2.1
    have hA := hO.1.2.2.2.2
    have hH := hO.2.1
    have hW := hO.2.2.1
    have hsp := hO.2.2.2.1
    have hd := hO.2.2.2.2.1
    have htd := hO.2.2.2.2.2
    have hE := g_E64 hn
    have hcn := q_cnt_le (f := D_wt (g_cv V)) (c := c) i
    refine j_iload d_M_wet_48 lg6 ?_
    refine j_aload_n (i := 0) d_M_wet_50 rfl lg0 ?_
    refine cl_M_108 (c_M_everyone l V S (by omega)) d_M_wet_51 rfl rfl (g_ftM (by decide)) (Nat.le_of_ble_eq_true rfl) (g_pu ?_)
    refine j_icmp_gtN (tgt := 94) d_M_wet_54 (by decide) (by omega) (by omega) (fun h_54 => ?_) (fun h_54 => ?_)
    ·
      obtain rfl : i = 1 <<< V 201 4 := by omega
      refine j_iload_n (i := 2) d_M_wet_94 rfl lg2 ?_
      refine j_if_neN (tgt := 102) d_M_wet_95 (by decide) (by omega) (fun h_95 => ?_) (fun h_95 => ?_)
      ·
        refine j_iload_n (i := 3) d_M_wet_102 rfl lg3 ?_
        refine j_if_neN (tgt := 111) d_M_wet_103 (by decide) (by omega) (fun h_103 => ?_) (fun h_103 => ?_)
        ·
          refine j_iload_n (i := 2) d_M_wet_111 rfl lg2 ?_
          refine j_iconstN (k := 1) d_M_wet_112 (by decide) ?_
          refine j_icmp_neN (tgt := 121) d_M_wet_113 (by decide) (by omega) (by omega) (fun h_113 => ?_) (fun h_113 => ?_)
          ·
            refine j_aload_n (i := 0) d_M_wet_121 rfl lg0 ?_
            refine cl_M_108 (c_M_everyone l V S (by omega)) d_M_wet_122 rfl rfl (g_ftM (by decide)) (Nat.le_of_ble_eq_true rfl) (g_pu ?_)
            refine j_iload d_M_wet_125 lg5 ?_
            refine j_iconst (v := -1) d_M_wet_127 (by decide) ?_
            refine j_ixor d_M_wet_128 ?_
            refine j_iand d_M_wet_129 ?_
            rw [g_not (by omega) (q_evr_lt (m := 6) (by omega))]
            refine j_iret d_M_wet_130 ⟨by unfold D_wetr; rw [if_neg (fun q => h_95 ((nI_eq (by omega) (by decide)).mp (q.trans nI_0.symm))), if_neg (show ¬ q_cnt (D_wt (g_cv V)) c (1 <<< g_cv V 0 1) = 0 from h_103), if_neg (show ¬ nI w = 1 from fun q => h_113 ((nI_eq (by omega) (by decide)).mp q))] <;> rfl, rfl, rfl⟩
          ·
            refine j_iload d_M_wet_116 lg4 ?_
            refine j_goto (tgt := 130) d_M_wet_118 (by decide) ?_
            refine j_iret d_M_wet_130 ⟨by unfold D_wetr; rw [if_neg (fun q => h_95 ((nI_eq (by omega) (by decide)).mp (q.trans nI_0.symm))), if_neg (show ¬ q_cnt (D_wt (g_cv V)) c (1 <<< g_cv V 0 1) = 0 from h_103), if_pos (by rw [h_113]; rfl)] <;> rfl, rfl, rfl⟩
        ·
          refine j_bipush (v := -9) d_M_wet_106 (by decide) ?_
          refine j_goto (tgt := 130) d_M_wet_108 (by decide) ?_
          refine j_iret d_M_wet_130 ⟨by unfold D_wetr; rw [if_neg (fun q => h_95 ((nI_eq (by omega) (by decide)).mp (q.trans nI_0.symm))), if_pos (show q_cnt (D_wt (g_cv V)) c (1 <<< g_cv V 0 1) = 0 from h_103)] <;> rfl, rfl, rfl⟩
      ·
        refine j_iload_n (i := 3) d_M_wet_98 rfl lg3 ?_
        refine j_goto (tgt := 130) d_M_wet_99 (by decide) ?_
        refine j_iret d_M_wet_130 ⟨by unfold D_wetr; rw [if_pos (by rw [h_95]; rfl)] <;> rfl, rfl, rfl⟩
    ·
      refine j_aload_n (i := 0) d_M_wet_57 rfl lg0 ?_
      refine j_aload_n (i := 0) d_M_wet_58 rfl lg0 ?_
      refine gf_M_25 d_M_wet_59 ?_
      refine j_iload d_M_wet_62 lg6 ?_
      refine cl_M_128 (c_M_drownsBy l V S hn 207 i gI_207 hd (by omega)) d_M_wet_64 rfl rfl (g_ftM (by decide)) (Nat.le_of_ble_eq_true rfl) (g_pu ?_)
      have hwl := q_wet_lt (d := V 207 19) hn (show i < 64 by omega)
      refine j_iload_n (i := 1) d_M_wet_67 rfl lg1 ?_
      refine j_icmp_neN (tgt := 88) d_M_wet_68 (by decide) (by omega) (by omega) (fun h_68 => ?_) (fun h_68 => ?_)
      ·
        have hw : ¬ D_wt (g_cv V) i = c := h_68
        refine j_iincN (k := 1) d_M_wet_88 lg6 (by decide) ls6i ?_
        refine j_goto (tgt := 48) d_M_wet_91 (by decide) ?_
        rw [show q_cnt (D_wt (g_cv V)) c i = q_cnt (D_wt (g_cv V)) c (i + 1) from (if_neg hw).symm, show q_alw (D_wt (g_cv V)) c (1 <<< V 201 4 - 1) i = q_alw (D_wt (g_cv V)) c (1 <<< V 201 4 - 1) (i + 1) from (if_neg hw).symm, show q_evr (D_wt (g_cv V)) c i = q_evr (D_wt (g_cv V)) c (i + 1) from (if_neg hw).symm]
        exact ih (i + 1) (by omega) (by omega)
      ·
        have hw : D_wt (g_cv V) i = c := h_68
        refine j_iincN (k := 1) d_M_wet_71 lg3 (by decide) ls3i ?_
        refine j_iload d_M_wet_74 lg4 ?_
        refine j_iload d_M_wet_76 lg6 ?_
        refine j_iandN d_M_wet_78 ?_
        refine j_istore d_M_wet_79 ls4i ?_
        refine j_iload d_M_wet_81 lg5 ?_
        refine j_iload d_M_wet_83 lg6 ?_
        refine j_iorN d_M_wet_85 ?_
        refine j_istore d_M_wet_86 ls5i ?_
        refine j_iincN (k := 1) d_M_wet_88 lg6 (by decide) ls6i ?_
        refine j_goto (tgt := 48) d_M_wet_91 (by decide) ?_
        rw [show q_cnt (D_wt (g_cv V)) c i + 1 = q_cnt (D_wt (g_cv V)) c (i + 1) from (if_pos hw).symm, show (q_alw (D_wt (g_cv V)) c (1 <<< V 201 4 - 1) i) &&& i = q_alw (D_wt (g_cv V)) c (1 <<< V 201 4 - 1) (i + 1) from (if_pos hw).symm, show (q_evr (D_wt (g_cv V)) c i) ||| i = q_evr (D_wt (g_cv V)) c (i + 1) from (if_pos hw).symm]
        exact ih (i + 1) (by omega) (by omega)
set_option maxRecDepth 4000 in
theorem c_M_wet {G : g_G} (l : Launch) (V : g_V) (S : g_L) (hO : M_OK V) (c0 w0 : Int32) : g_C G l y_M_wet b_M_wet 7 (some .int) 3 [.ref (g_a G (201)), .int (c0), .int (w0)] V S (fun r V' S' => r = some (.int (if q_in c0 (1 <<< V 201 4) ∧ q_in w0 3 then D_wetr (g_cv V) (q_n c0) w0 else -2)) ∧ V' = V ∧ S' = S) := by
  refine g_C.of (lv := [some (.ref (g_a G (201))), some (.int (c0)), some (.int (w0)), none, none, none, none]) (by decide +kernel) rfl rfl rfl (Nat.le_of_ble_eq_true rfl) ?_
  have h0 := hO.1.1
  have hn := hO.1.2.1
  have hK := hO.1.2.2.1
  have hX := hO.1.2.2.2.1
  have hA := hO.1.2.2.2.2
  have hH := hO.2.1
  have hW := hO.2.2.1
  have hsp := hO.2.2.2.1
  have hd := hO.2.2.2.2.1
  have htd := hO.2.2.2.2.2
  have hE := g_E64 hn
  refine j_aload_n (i := 0) d_M_wet_0 rfl lg0 ?_
  refine j_iconstN (k := 0) d_M_wet_1 (by decide) ?_
  refine pf_M_47 d_M_wet_2 ?_
  rw [g_up_id h0]
  refine j_iload_n (i := 1) d_M_wet_5 rfl lg1 ?_
  refine j_i2l d_M_wet_6 ?_
  refine j_lconst (v := 0) d_M_wet_7 rfl ?_
  refine j_aload_n (i := 0) d_M_wet_8 rfl lg0 ?_
  refine cl_M_108 (c_M_everyone l V S (by omega)) d_M_wet_9 rfl rfl (g_ftM (by decide)) (Nat.le_of_ble_eq_true rfl) (g_pu ?_)
  refine j_i2l d_M_wet_12 ?_
  refine cl_M_54 (c_M_in l V S ((c0).toInt64) (0) ((nI (1 <<< V 201 4 - 1)).toInt64)) d_M_wet_13 rfl rfl (g_ftM (by decide)) (Nat.le_of_ble_eq_true rfl) (g_pu ?_)
  refine j_if_eqB (tgt := 31) d_M_wet_16 (by decide) (fun h_16 => ?_) (fun h_16 => ?_)
  ·
    refine j_bipush (v := -2) d_M_wet_31 (by decide) ?_
    refine j_iret d_M_wet_33 ⟨by rw [if_neg (fun q => by first | exact h_16 ((q_rng_u (by omega)).mpr (by rw [show 1 <<< V 201 4 - 1 + 1 = 1 <<< V 201 4 by omega]; exact q.1)) | exact h_28 ((q_rng_in (k := 2) (by decide)).mpr q.2))], rfl, rfl⟩
  ·
    refine j_iload_n (i := 2) d_M_wet_19 rfl lg2 ?_
    refine j_i2l d_M_wet_20 ?_
    refine j_lconst (v := 0) d_M_wet_21 rfl ?_
    refine j_ldc2 (v := 2) d_M_wet_22 (g_use (List.mem_of_getElem? (i := 720) (by decide +kernel)) rfl) ?_
    refine cl_M_54 (c_M_in l V S ((w0).toInt64) (0) (2)) d_M_wet_25 rfl rfl (g_ftM (by decide)) (Nat.le_of_ble_eq_true rfl) (g_pu ?_)
    refine j_if_neB (tgt := 34) d_M_wet_28 (by decide) (fun h_28 => ?_) (fun h_28 => ?_)
    ·
      have hc0 : q_in c0 (1 <<< V 201 4) := by
        have h := (q_rng_u (by omega)).mp h_16
        rw [show 1 <<< V 201 4 - 1 + 1 = 1 <<< V 201 4 by omega] at h
        exact h
      have hw0 := (q_rng_in (k := 2) (by decide)).mp h_28
      obtain ⟨c, hc, rfl⟩ := q_in_of hc0 (by omega)
      rw [if_pos ⟨hc0, hw0⟩, q_n_nI (by omega)]
      obtain ⟨w, hww, rfl⟩ := q_in_of hw0 (by decide)
      refine j_iconstN (k := 0) d_M_wet_34 (by decide) ?_
      refine j_istore_n d_M_wet_35 rfl ls3i ?_
      refine j_aload_n (i := 0) d_M_wet_36 rfl lg0 ?_
      refine cl_M_108 (c_M_everyone l V S (by omega)) d_M_wet_37 rfl rfl (g_ftM (by decide)) (Nat.le_of_ble_eq_true rfl) (g_pu ?_)
      refine j_istore d_M_wet_40 ls4i ?_
      refine j_iconstN (k := 0) d_M_wet_42 (by decide) ?_
      refine j_istore d_M_wet_43 ls5i ?_
      refine j_iconstN (k := 0) d_M_wet_45 (by decide) ?_
      refine j_istore d_M_wet_46 ls6i ?_
      exact lp_M_wet l V S hO c w (by omega) (by omega) _ 0 (by omega) (Nat.lt_succ_self _)
    ·
      refine j_bipush (v := -2) d_M_wet_31 (by decide) ?_
      refine j_iret d_M_wet_33 ⟨by rw [if_neg (fun q => by first | exact h_16 ((q_rng_u (by omega)).mpr (by rw [show 1 <<< V 201 4 - 1 + 1 = 1 <<< V 201 4 by omega]; exact q.1)) | exact h_28 ((q_rng_in (k := 2) (by decide)).mpr q.2))], rfl, rfl⟩
theorem q_brk_ext {n x : Nat} {s t : Nat → Nat} (h : ∀ i, i < n → s i = t i) : q_brk n s x = q_brk n t x :=
  q_or_ext fun i hi => by rw [h i hi]
/-- W: V's world, the trial page behind k storms -/
def g_tr (V W : g_V) (xs : Nat → Nat) (k : Nat) : Prop := (∀ c, c ≠ 208 → W c = V c) ∧ (∀ j, j < 6 → W 208 j = q_hh (V 205) (V 203) (V 201 4) xs (V 207) k j) ∧ W 208 19 = V 207 19
theorem g_tr_0 {V : g_V} {xs : Nat → Nat} : g_tr V (g_bg V 57) xs 0 := ⟨fun c h => g_bg_N h, fun j hj => g_bg_S (by omega), g_bg_S (by decide)⟩
theorem g_tr_n {V W : g_V} {xs : Nat → Nat} {k : Nat} (t : g_tr V W xs k) : W 201 4 = V 201 4 := by rw [t.1 201 (by decide)]
theorem g_tr_K {V W : g_V} {xs : Nat → Nat} {k : Nat} (t : g_tr V W xs k) (h : M_K V) : M_K W := by
  unfold M_K; rw [t.1 203 (by decide), t.1 204 (by decide), t.1 205 (by decide)]; exact h
theorem g_tr_H {V W : g_V} {xs : Nat → Nat} {k : Nat} (t : g_tr V W xs k) (h : g_H V 207) : g_H W 208 := fun i hi => by
  rw [t.2.1 i hi]; exact q_hh_le (h i hi) k
theorem g_tr_s {V W : g_V} {xs : Nat → Nat} {k : Nat} (t : g_tr V W xs k) {i : Nat} (hi : i < 6) : M_str W 208 i = q_str (V 205 i) (V 203 i) (q_hh (V 205) (V 203) (V 201 4) xs (V 207) k i) := by
  unfold M_str; rw [t.1 203 (by decide), t.1 205 (by decide), t.2.1 i hi]
theorem g_tr_b {V W : g_V} {xs : Nat → Nat} {k : Nat} (t : g_tr V W xs k) (hn : V 201 4 ≤ 6) : q_brk (W 201 4) (M_str W 208) (xs k) = q_hb (V 205) (V 203) (V 201 4) xs (V 207) k := by
  rw [g_tr_n t]
  exact q_brk_ext fun i hi => g_tr_s t (by omega)
theorem g_tr_go {V W : g_V} {xs : Nat → Nat} {k : Nat} (t : g_tr V W xs k) (hn : V 201 4 ≤ 6) : g_tr V (g_go W 208 (xs k)) xs (k + 1) := by
  refine ⟨fun c h => ?_, fun j hj => ?_, ?_⟩
  · unfold g_go
    rw [g_up_ne h, g_up_ne h, g_gs_N h]
    exact t.1 c h
  · unfold g_go
    rw [g_upK (by omega), g_upK (by omega)]
    unfold g_gs
    rw [g_rowS, g_tr_n t]
    show (if _ then _ else _) = (if _ then _ else _)
    rw [g_tr_s t hj, t.2.1 j hj]
  · unfold g_go
    rw [g_upK (by decide), g_upK (by decide), g_gs_S (by rw [g_tr_n t]; omega)]
    exact t.2.2
theorem g_hh_n {kd gr xs h0 : Nat → Nat} {n i k : Nat} (hi : i < n) : q_hh kd gr n xs h0 (k + 1) i = q_bh (q_str (kd i) (gr i) (q_hh kd gr n xs h0 k i)) (q_hh kd gr n xs h0 k i) (xs k) := if_pos hi
theorem g_hb_n {kd gr xs h0 : Nat → Nat} {n i k : Nat} (hi : i < n) : (q_hb kd gr n xs h0 k).testBit i = true ↔ q_str (kd i) (gr i) (q_hh kd gr n xs h0 k i) < xs k := by
  unfold q_hb
  rw [q_brk_tb]
  exact ⟨fun q => q.2, fun q => ⟨hi, q⟩⟩
set_option maxRecDepth 4000 in
theorem lp_M_threes1 {G : g_G} (l : Launch) (V : g_V) (S : g_L) (hO : M_OK V) (s a b t u : Nat) (hs : s < V 201 4) (ha : a ≤ 20) (hb : b ≤ 20) (ht : t ≤ 10) (hu : u < 2) (p y : Nat) (hy : y < 8) (hp : p ≤ 8000) (hout : (∀ W', (∀ c, c ≠ 208 → W' c = V c) → JW G (g_M G l 4 (some .int) (fun r V' S' => S' = S ∧ r = some (.int (nI ((if u = 0 then 1000 else q_sum 8 (D_thf (g_cv V) s a b t)) / Nat.gcd (q_sum 8 (D_thf (g_cv V) s a b t)) 1000))) ∧ ∀ c, c ≠ 208 → V' c = V c)) b_M_threes R_M 51 [some (.ref (g_a G (201))), some (.int (nI (s))), some (.int (nI (a))), some (.int (nI (b))), some (.int (nI (t))), some (.int (nI (u))), some (.int (nI (p + D_thf (g_cv V) s a b t y))), some (.int (nI (y + 1))), none, none, none, none] [] W' S)) : ∀ (n : Nat) (i e : Nat) (W : g_V), (g_tr V W (q_xs y a b) i) → (i ≤ 3) → (e < 2) → ((e = 1 ∧ q_hold (V 205 s) (V 203 s) (q_xs y a b) 3 0 (V 207 s) = q_hold (V 205 s) (V 203 s) (q_xs y a b) (3 - i) i (q_hh (V 205) (V 203) (V 201 4) (q_xs y a b) (V 207) i s)) ∨ (e = 0 ∧ q_hold (V 205 s) (V 203 s) (q_xs y a b) 3 0 (V 207 s) = false)) → 3 - i < n → JW G (g_M G l 4 (some .int) (fun r V' S' => S' = S ∧ r = some (.int (nI ((if u = 0 then 1000 else q_sum 8 (D_thf (g_cv V) s a b t)) / Nat.gcd (q_sum 8 (D_thf (g_cv V) s a b t)) 1000))) ∧ ∀ c, c ≠ 208 → V' c = V c)) b_M_threes R_M 71 [some (.ref (g_a G (201))), some (.int (nI (s))), some (.int (nI (a))), some (.int (nI (b))), some (.int (nI (t))), some (.int (nI (u))), some (.int (nI (p))), some (.int (nI (y))), some (.int (nI (q_ch y t i))), some (.int (nI (e))), some (.int (nI (i))), none] [] W S := by
  intro n
  induction n with
  | zero => intro i e W hT hi he2 he hm; exact absurd hm (Nat.not_lt_zero _)
  | succ n ih =>
    intro i e W hT hi he2 he hm
    have h0 := hO.1.1
    have hn := hO.1.2.1
    have hK := hO.1.2.2.1
    have hX := hO.1.2.2.2.1
    have hA := hO.1.2.2.2.2
    have hH := hO.2.1
    have hW := hO.2.2.1
    have hsp := hO.2.2.2.1
    have hd := hO.2.2.2.2.1
    have htd := hO.2.2.2.2.2
    refine j_iload d_M_threes_71 lg10 ?_
    refine j_iconstN (k := 3) d_M_threes_73 (by decide) ?_
    refine j_icmp_geN (tgt := 149) d_M_threes_74 (by decide) (by omega) (by omega) (fun h_74 => ?_) (fun h_74 => ?_)
    ·
      refine j_iload d_M_threes_149 lg6 ?_
      refine j_iload d_M_threes_151 lg9 ?_
      refine j_if_eqN (tgt := 161) d_M_threes_153 (by decide) (by omega) (fun h_153 => ?_) (fun h_153 => ?_)
      ·
        refine j_iconstN (k := 0) d_M_threes_161 (by decide) ?_
        refine j_iaddN d_M_threes_162 ?_
        refine j_istore d_M_threes_163 ls6i ?_
        refine j_iincN (k := 1) d_M_threes_165 lg7 (by decide) ls7i ?_
        refine j_goto (tgt := 51) d_M_threes_168 (by decide) ?_
        have hfin : p + 0 = p + D_thf (g_cv V) s a b t y := by
          obtain rfl : i = 3 := by omega
          congr 1
          rcases he with ⟨e1, e2⟩ | ⟨e1, e2⟩
          · first | omega | exact (show D_thf (g_cv V) s a b t y = q_ch y t 3 from if_pos (show q_hold (g_cv V 5 s) (g_cv V 3 s) (q_xs y a b) 3 0 (g_cv V (hB 0 + 1) s) = true from e2)).symm
          · first | omega | exact (show D_thf (g_cv V) s a b t y = 0 from if_neg (fun q => by rw [show q_hold (g_cv V 5 s) (g_cv V 3 s) (q_xs y a b) 3 0 (g_cv V (hB 0 + 1) s) = false from e2] at q; cases q)).symm
        rw [hfin]
        exact j_fg 8 (j_fg 9 (j_fg 10 (j_fg 11 (hout W hT.1))))
      ·
        refine j_iload d_M_threes_156 lg8 ?_
        refine j_goto (tgt := 162) d_M_threes_158 (by decide) ?_
        refine j_iaddN d_M_threes_162 ?_
        refine j_istore d_M_threes_163 ls6i ?_
        refine j_iincN (k := 1) d_M_threes_165 lg7 (by decide) ls7i ?_
        refine j_goto (tgt := 51) d_M_threes_168 (by decide) ?_
        have hfin : p + (q_ch y t i) = p + D_thf (g_cv V) s a b t y := by
          obtain rfl : i = 3 := by omega
          congr 1
          rcases he with ⟨e1, e2⟩ | ⟨e1, e2⟩
          · first | omega | exact (show D_thf (g_cv V) s a b t y = q_ch y t 3 from if_pos (show q_hold (g_cv V 5 s) (g_cv V 3 s) (q_xs y a b) 3 0 (g_cv V (hB 0 + 1) s) = true from e2)).symm
          · first | omega | exact (show D_thf (g_cv V) s a b t y = 0 from if_neg (fun q => by rw [show q_hold (g_cv V 5 s) (g_cv V 3 s) (q_xs y a b) 3 0 (g_cv V (hB 0 + 1) s) = false from e2] at q; cases q)).symm
        rw [hfin]
        exact j_fg 8 (j_fg 9 (j_fg 10 (j_fg 11 (hout W hT.1))))
    ·
      refine j_iload d_M_threes_77 lg7 ?_
      refine j_iload d_M_threes_79 lg10 ?_
      refine cl_M_78 (c_M_has l W S (y) (i) (by omega) (by omega)) d_M_threes_81 rfl rfl (g_ftM (by decide)) (Nat.le_of_ble_eq_true rfl) (g_pu ?_)
      refine j_istore d_M_threes_84 ls11i ?_
      refine j_iload d_M_threes_86 lg8 ?_
      refine j_iload d_M_threes_88 lg11 ?_
      refine j_if_eqB (tgt := 98) d_M_threes_90 (by decide) (fun h_90 => ?_) (fun h_90 => ?_)
      ·
        refine j_bipushN (k := 10) d_M_threes_98 (by decide) ?_
        refine j_iload d_M_threes_100 lg4 ?_
        refine j_isubN d_M_threes_102 (by omega) ?_
        have hbt : ¬ y.testBit i = true := h_90
        refine j_imulN d_M_threes_103 ?_
        refine j_istore d_M_threes_104 ls8i ?_
        refine j_aload_n (i := 0) d_M_threes_106 rfl lg0 ?_
        refine j_aload_n (i := 0) d_M_threes_107 rfl lg0 ?_
        refine gf_M_28 d_M_threes_108 ?_
        refine j_iload d_M_threes_111 lg11 ?_
        refine j_if_eqB (tgt := 120) d_M_threes_113 (by decide) (fun h_113 => ?_) (fun h_113 => ?_)
        ·
          refine j_iload_n (i := 3) d_M_threes_120 rfl lg3 ?_
          refine cl_M_125 (c_M_goStorm l W S (by rw [g_tr_n hT]; exact hn) (g_tr_K hT hK) 208 b gI_208 (by decide) (by decide) (by decide) (by decide) (g_tr_H hT hH) (by omega)) d_M_threes_121 rfl rfl (g_ftM (by decide)) (Nat.le_of_ble_eq_true rfl) (g_pv ?_)
          have hxi : q_xs y a b i = b := if_neg h_90
          have hbq := g_tr_b hT hn
          have hT1 := g_tr_go hT hn
          rw [hxi] at hbq hT1
          rw [hbq]
          have hb6 : q_hb (V 205) (V 203) (V 201 4) (q_xs y a b) (V 207) i < 2 ^ 6 := q_brk_lt (m := 6) hn
          refine j_iload_n (i := 1) d_M_threes_124 rfl lg1 ?_
          refine cl_M_78 (c_M_has l (g_go W 208 b) S (q_hb (V 205) (V 203) (V 201 4) (q_xs y a b) (V 207) i) (s) (by omega) (by omega)) d_M_threes_125 rfl rfl (g_ftM (by decide)) (Nat.le_of_ble_eq_true rfl) (g_pu ?_)
          refine j_if_neB (tgt := 140) d_M_threes_128 (by decide) (fun h_128 => ?_) (fun h_128 => ?_)
          ·
            refine j_iconstN (k := 0) d_M_threes_140 (by decide) ?_
            refine j_istore d_M_threes_141 ls9i ?_
            refine j_iincN (k := 1) d_M_threes_143 lg10 (by decide) ls10i ?_
            refine j_goto (tgt := 71) d_M_threes_146 (by decide) ?_
            rw [show q_ch y t i * (10 - t) = q_ch y t (i + 1) from by show _ = q_ch y t i * (if _ then _ else _); rw [if_neg hbt]]
            exact j_fg 11 (ih (i + 1) _ _ hT1 (by omega) (by omega) (Or.inr ⟨rfl, by rcases he with ⟨e1, e2⟩ | ⟨e1, e2⟩ <;> first | (rw [e2, q_hold_f (by omega) ((g_hb_n (by omega)).mp h_128)]) | omega | exact e2⟩) (by omega))
          ·
            refine j_iload d_M_threes_131 lg9 ?_
            refine j_if_eqN (tgt := 140) d_M_threes_133 (by decide) (by omega) (fun h_133 => ?_) (fun h_133 => ?_)
            ·
              refine j_iconstN (k := 0) d_M_threes_140 (by decide) ?_
              refine j_istore d_M_threes_141 ls9i ?_
              refine j_iincN (k := 1) d_M_threes_143 lg10 (by decide) ls10i ?_
              refine j_goto (tgt := 71) d_M_threes_146 (by decide) ?_
              rw [show q_ch y t i * (10 - t) = q_ch y t (i + 1) from by show _ = q_ch y t i * (if _ then _ else _); rw [if_neg hbt]]
              exact j_fg 11 (ih (i + 1) _ _ hT1 (by omega) (by omega) (Or.inr ⟨rfl, by rcases he with ⟨e1, e2⟩ | ⟨e1, e2⟩ <;> first | (rw [e2, q_hold_f (by omega) ((g_hb_n (by omega)).mp h_128)]) | omega | exact e2⟩) (by omega))
            ·
              refine j_iconstN (k := 1) d_M_threes_136 (by decide) ?_
              refine j_goto (tgt := 141) d_M_threes_137 (by decide) ?_
              refine j_istore d_M_threes_141 ls9i ?_
              refine j_iincN (k := 1) d_M_threes_143 lg10 (by decide) ls10i ?_
              refine j_goto (tgt := 71) d_M_threes_146 (by decide) ?_
              rw [show q_ch y t i * (10 - t) = q_ch y t (i + 1) from by show _ = q_ch y t i * (if _ then _ else _); rw [if_neg hbt]]
              exact j_fg 11 (ih (i + 1) _ _ hT1 (by omega) (by omega) (Or.inl ⟨rfl, by rcases he with ⟨e1, e2⟩ | ⟨e1, e2⟩ <;> first | (rw [e2, q_hold_t (by omega) (fun q => h_128 ((g_hb_n (by omega)).mpr q)), g_hh_n (by omega)]) | exact absurd e1 h_133⟩) (by omega))
        ·
          exact absurd h_113 h_90
      ·
        refine j_iload d_M_threes_93 lg4 ?_
        refine j_goto (tgt := 103) d_M_threes_95 (by decide) ?_
        have hbt : y.testBit i = true := h_90
        refine j_imulN d_M_threes_103 ?_
        refine j_istore d_M_threes_104 ls8i ?_
        refine j_aload_n (i := 0) d_M_threes_106 rfl lg0 ?_
        refine j_aload_n (i := 0) d_M_threes_107 rfl lg0 ?_
        refine gf_M_28 d_M_threes_108 ?_
        refine j_iload d_M_threes_111 lg11 ?_
        refine j_if_eqB (tgt := 120) d_M_threes_113 (by decide) (fun h_113 => ?_) (fun h_113 => ?_)
        ·
          exact absurd h_90 h_113
        ·
          refine j_iload_n (i := 2) d_M_threes_116 rfl lg2 ?_
          refine j_goto (tgt := 121) d_M_threes_117 (by decide) ?_
          refine cl_M_125 (c_M_goStorm l W S (by rw [g_tr_n hT]; exact hn) (g_tr_K hT hK) 208 a gI_208 (by decide) (by decide) (by decide) (by decide) (g_tr_H hT hH) (by omega)) d_M_threes_121 rfl rfl (g_ftM (by decide)) (Nat.le_of_ble_eq_true rfl) (g_pv ?_)
          have hxi : q_xs y a b i = a := if_pos h_90
          have hbq := g_tr_b hT hn
          have hT1 := g_tr_go hT hn
          rw [hxi] at hbq hT1
          rw [hbq]
          have hb6 : q_hb (V 205) (V 203) (V 201 4) (q_xs y a b) (V 207) i < 2 ^ 6 := q_brk_lt (m := 6) hn
          refine j_iload_n (i := 1) d_M_threes_124 rfl lg1 ?_
          refine cl_M_78 (c_M_has l (g_go W 208 a) S (q_hb (V 205) (V 203) (V 201 4) (q_xs y a b) (V 207) i) (s) (by omega) (by omega)) d_M_threes_125 rfl rfl (g_ftM (by decide)) (Nat.le_of_ble_eq_true rfl) (g_pu ?_)
          refine j_if_neB (tgt := 140) d_M_threes_128 (by decide) (fun h_128 => ?_) (fun h_128 => ?_)
          ·
            refine j_iconstN (k := 0) d_M_threes_140 (by decide) ?_
            refine j_istore d_M_threes_141 ls9i ?_
            refine j_iincN (k := 1) d_M_threes_143 lg10 (by decide) ls10i ?_
            refine j_goto (tgt := 71) d_M_threes_146 (by decide) ?_
            rw [show q_ch y t i * t = q_ch y t (i + 1) from by show _ = q_ch y t i * (if _ then _ else _); rw [if_pos hbt]]
            exact j_fg 11 (ih (i + 1) _ _ hT1 (by omega) (by omega) (Or.inr ⟨rfl, by rcases he with ⟨e1, e2⟩ | ⟨e1, e2⟩ <;> first | (rw [e2, q_hold_f (by omega) ((g_hb_n (by omega)).mp h_128)]) | omega | exact e2⟩) (by omega))
          ·
            refine j_iload d_M_threes_131 lg9 ?_
            refine j_if_eqN (tgt := 140) d_M_threes_133 (by decide) (by omega) (fun h_133 => ?_) (fun h_133 => ?_)
            ·
              refine j_iconstN (k := 0) d_M_threes_140 (by decide) ?_
              refine j_istore d_M_threes_141 ls9i ?_
              refine j_iincN (k := 1) d_M_threes_143 lg10 (by decide) ls10i ?_
              refine j_goto (tgt := 71) d_M_threes_146 (by decide) ?_
              rw [show q_ch y t i * t = q_ch y t (i + 1) from by show _ = q_ch y t i * (if _ then _ else _); rw [if_pos hbt]]
              exact j_fg 11 (ih (i + 1) _ _ hT1 (by omega) (by omega) (Or.inr ⟨rfl, by rcases he with ⟨e1, e2⟩ | ⟨e1, e2⟩ <;> first | (rw [e2, q_hold_f (by omega) ((g_hb_n (by omega)).mp h_128)]) | omega | exact e2⟩) (by omega))
            ·
              refine j_iconstN (k := 1) d_M_threes_136 (by decide) ?_
              refine j_goto (tgt := 141) d_M_threes_137 (by decide) ?_
              refine j_istore d_M_threes_141 ls9i ?_
              refine j_iincN (k := 1) d_M_threes_143 lg10 (by decide) ls10i ?_
              refine j_goto (tgt := 71) d_M_threes_146 (by decide) ?_
              rw [show q_ch y t i * t = q_ch y t (i + 1) from by show _ = q_ch y t i * (if _ then _ else _); rw [if_pos hbt]]
              exact j_fg 11 (ih (i + 1) _ _ hT1 (by omega) (by omega) (Or.inl ⟨rfl, by rcases he with ⟨e1, e2⟩ | ⟨e1, e2⟩ <;> first | (rw [e2, q_hold_t (by omega) (fun q => h_128 ((g_hb_n (by omega)).mpr q)), g_hh_n (by omega)]) | exact absurd e1 h_133⟩) (by omega))
theorem g_tr_0' {V W : g_V} {xs : Nat → Nat} (h : ∀ c, c ≠ 208 → W c = V c) : g_tr V (g_bg W 57) xs 0 := ⟨fun c hc => (g_bg_N hc).trans (h c hc), fun j hj => by rw [g_bg_S (by omega), h 207 (by decide)]; rfl, by rw [g_bg_S (by decide), h 207 (by decide)]⟩
set_option maxRecDepth 4000 in
theorem lp_M_threes {G : g_G} (l : Launch) (V : g_V) (S : g_L) (hO : M_OK V) (s a b t u : Nat) (hs : s < V 201 4) (ha : a ≤ 20) (hb : b ≤ 20) (ht : t ≤ 10) (hu : u < 2) : ∀ (n : Nat) (y p : Nat) (W : g_V), (∀ c, c ≠ 208 → W c = V c) → (y ≤ 8) → (p = q_sum y (D_thf (g_cv V) s a b t)) → (p ≤ y * 1000) → 8 - y < n → JW G (g_M G l 4 (some .int) (fun r V' S' => S' = S ∧ r = some (.int (nI ((if u = 0 then 1000 else q_sum 8 (D_thf (g_cv V) s a b t)) / Nat.gcd (q_sum 8 (D_thf (g_cv V) s a b t)) 1000))) ∧ ∀ c, c ≠ 208 → V' c = V c)) b_M_threes R_M 51 [some (.ref (g_a G (201))), some (.int (nI (s))), some (.int (nI (a))), some (.int (nI (b))), some (.int (nI (t))), some (.int (nI (u))), some (.int (nI (p))), some (.int (nI (y))), none, none, none, none] [] W S := by
  intro n
  induction n with
  | zero => intro y p W hW2 hy hps hpl hm; exact absurd hm (Nat.not_lt_zero _)
  | succ n ih =>
    intro y p W hW2 hy hps hpl hm
    have h0 := hO.1.1
    have hn := hO.1.2.1
    have hK := hO.1.2.2.1
    have hX := hO.1.2.2.2.1
    have hA := hO.1.2.2.2.2
    have hH := hO.2.1
    have hW := hO.2.2.1
    have hsp := hO.2.2.2.1
    have hd := hO.2.2.2.2.1
    have htd := hO.2.2.2.2.2
    refine j_iload d_M_threes_51 lg7 ?_
    refine j_bipushN (k := 8) d_M_threes_53 (by decide) ?_
    refine j_icmp_geN (tgt := 171) d_M_threes_55 (by decide) (by omega) (by omega) (fun h_55 => ?_) (fun h_55 => ?_)
    ·
      refine j_iload d_M_threes_171 lg6 ?_
      refine j_sipushN (k := 1000) d_M_threes_173 (by decide) ?_
      refine j_iload d_M_threes_176 lg5 ?_
      refine cl_M_185 (c_M_fraction l W S p 1000 u (by omega) (by decide) (by decide) hu) d_M_threes_178 rfl rfl (g_ftM (by decide)) (Nat.le_of_ble_eq_true rfl) (g_pu ?_)
      refine j_iret d_M_threes_181 ⟨rfl, by rw [hps, show y = 8 by omega], hW2⟩
    ·
      refine j_iconstN (k := 1) d_M_threes_58 (by decide) ?_
      refine j_istore d_M_threes_59 ls8i ?_
      refine j_iconstN (k := 1) d_M_threes_61 (by decide) ?_
      refine j_istore d_M_threes_62 ls9i ?_
      refine j_aload_n (i := 0) d_M_threes_64 rfl lg0 ?_
      refine cl_M_167 (c_M_begin l W S) d_M_threes_65 rfl rfl (g_ftM (by decide)) (Nat.le_of_ble_eq_true rfl) (g_pw ?_)
      refine j_iconstN (k := 0) d_M_threes_68 (by decide) ?_
      refine j_istore d_M_threes_69 ls10i ?_
      refine j_fg 11 (lp_M_threes1 l V S hO s a b t u hs ha hb ht hu p y (by omega) (by omega) (fun W2 hV2 => ?_) _ 0 1 _ (g_tr_0' hW2) (by decide) (by decide) (Or.inl ⟨rfl, rfl⟩) (Nat.lt_succ_self _))
      exact ih (y + 1) _ W2 hV2 (by omega) (by rw [hps]; rfl) (by have := D_thf_le (V := g_cv V) (s := s) (a := a) (b := b) (t := t) (r := y) ht; omega) (by omega)
set_option maxRecDepth 4000 in
theorem c_M_threes {G : g_G} (l : Launch) (V : g_V) (S : g_L) (hO : M_OK V) (s0 a0 b0 t0 : Int32) (u : Nat) (hu : u < 2) : g_C G l y_M_threes b_M_threes 12 (some .int) 4 [.ref (g_a G (201)), .int (s0), .int (a0), .int (b0), .int (t0), .int (nI (u))] V S (fun r V' S' => S' = S ∧ r = some (.int (if q_in s0 (V 201 4) then (if q_in a0 21 ∧ q_in b0 21 ∧ q_in t0 11 then nI ((if u = 0 then 1000 else q_sum 8 (D_thf (g_cv V) (q_n s0) (q_n a0) (q_n b0) (q_n t0))) / Nat.gcd (q_sum 8 (D_thf (g_cv V) (q_n s0) (q_n a0) (q_n b0) (q_n t0))) 1000) else -2) else -1)) ∧ ∀ c, c ≠ 208 → V' c = V c) := by
  refine g_C.of (lv := [some (.ref (g_a G (201))), some (.int (s0)), some (.int (a0)), some (.int (b0)), some (.int (t0)), some (.int (nI (u))), none, none, none, none, none, none]) (by decide +kernel) rfl rfl rfl (Nat.le_of_ble_eq_true rfl) ?_
  have h0 := hO.1.1
  have hn := hO.1.2.1
  have hK := hO.1.2.2.1
  have hX := hO.1.2.2.2.1
  have hA := hO.1.2.2.2.2
  have hH := hO.2.1
  have hW := hO.2.2.1
  have hsp := hO.2.2.2.1
  have hd := hO.2.2.2.2.1
  have htd := hO.2.2.2.2.2
  refine j_aload_n (i := 0) d_M_threes_0 rfl lg0 ?_
  refine j_iconstN (k := 0) d_M_threes_1 (by decide) ?_
  refine pf_M_47 d_M_threes_2 ?_
  rw [g_up_id h0]
  refine j_aload_n (i := 0) d_M_threes_5 rfl lg0 ?_
  refine j_iload_n (i := 1) d_M_threes_6 rfl lg1 ?_
  refine cl_M_115 (c_M_noFarm l V S (by omega) (s0)) d_M_threes_7 rfl rfl (g_ftM (by decide)) (Nat.le_of_ble_eq_true rfl) (g_pu ?_)
  refine j_if_eqB (tgt := 15) d_M_threes_10 (by decide) (fun h_10 => ?_) (fun h_10 => ?_)
  ·
    refine j_iload_n (i := 2) d_M_threes_15 rfl lg2 ?_
    refine cl_M_119 (c_M_noStorm l V S (a0)) d_M_threes_16 rfl rfl (g_ftM (by decide)) (Nat.le_of_ble_eq_true rfl) (g_pu ?_)
    refine j_if_neB (tgt := 42) d_M_threes_19 (by decide) (fun h_19 => ?_) (fun h_19 => ?_)
    ·
      refine j_bipush (v := -2) d_M_threes_42 (by decide) ?_
      refine j_iret d_M_threes_44 ⟨rfl, by rw [if_pos (Classical.not_not.mp h_10), if_neg (fun q => by first | exact h_19 q.1 | exact h_26 q.2.1 | exact h_39 ((q_rng_in (k := 10) (by decide)).mpr q.2.2))], fun _ _ => rfl⟩
    ·
      refine j_iload_n (i := 3) d_M_threes_22 rfl lg3 ?_
      refine cl_M_119 (c_M_noStorm l V S (b0)) d_M_threes_23 rfl rfl (g_ftM (by decide)) (Nat.le_of_ble_eq_true rfl) (g_pu ?_)
      refine j_if_neB (tgt := 42) d_M_threes_26 (by decide) (fun h_26 => ?_) (fun h_26 => ?_)
      ·
        refine j_bipush (v := -2) d_M_threes_42 (by decide) ?_
        refine j_iret d_M_threes_44 ⟨rfl, by rw [if_pos (Classical.not_not.mp h_10), if_neg (fun q => by first | exact h_19 q.1 | exact h_26 q.2.1 | exact h_39 ((q_rng_in (k := 10) (by decide)).mpr q.2.2))], fun _ _ => rfl⟩
      ·
        refine j_iload d_M_threes_29 lg4 ?_
        refine j_i2l d_M_threes_31 ?_
        refine j_lconst (v := 0) d_M_threes_32 rfl ?_
        refine j_ldc2 (v := 10) d_M_threes_33 (g_use (List.mem_of_getElem? (i := 777) (by decide +kernel)) rfl) ?_
        refine cl_M_54 (c_M_in l V S ((t0).toInt64) (0) (10)) d_M_threes_36 rfl rfl (g_ftM (by decide)) (Nat.le_of_ble_eq_true rfl) (g_pu ?_)
        refine j_if_neB (tgt := 45) d_M_threes_39 (by decide) (fun h_39 => ?_) (fun h_39 => ?_)
        ·
          have hs0 := Classical.not_not.mp h_10
          have ha0 := Classical.not_not.mp h_19
          have hb0 := Classical.not_not.mp h_26
          have ht0 := (q_rng_in (k := 10) (by decide)).mp h_39
          rw [if_pos hs0, if_pos ⟨ha0, hb0, ht0⟩]
          obtain ⟨s, hs, rfl⟩ := q_in_of hs0 (by omega)
          obtain ⟨a, ha, rfl⟩ := q_in_of ha0 (by decide)
          obtain ⟨b, hb, rfl⟩ := q_in_of hb0 (by decide)
          obtain ⟨t, ht, rfl⟩ := q_in_of ht0 (by decide)
          rw [q_n_nI (by omega), q_n_nI (by omega), q_n_nI (by omega), q_n_nI (by omega)]
          refine j_iconstN (k := 0) d_M_threes_45 (by decide) ?_
          refine j_istore d_M_threes_46 ls6i ?_
          refine j_iconstN (k := 0) d_M_threes_48 (by decide) ?_
          refine j_istore d_M_threes_49 ls7i ?_
          exact lp_M_threes l V S hO s a b t u hs (by omega) (by omega) (by omega) hu _ 0 0 V (fun _ _ => rfl) (by omega) rfl (by omega) (Nat.lt_succ_self _)
        ·
          refine j_bipush (v := -2) d_M_threes_42 (by decide) ?_
          refine j_iret d_M_threes_44 ⟨rfl, by rw [if_pos (Classical.not_not.mp h_10), if_neg (fun q => by first | exact h_19 q.1 | exact h_26 q.2.1 | exact h_39 ((q_rng_in (k := 10) (by decide)).mpr q.2.2))], fun _ _ => rfl⟩
  ·
    refine j_iconst (v := -1) d_M_threes_13 (by decide) ?_
    refine j_iret d_M_threes_14 ⟨rfl, by rw [if_neg h_10], fun _ _ => rfl⟩
