/-! The reference: the text. -/
def M_T (V : g_V) : Prop := V 201 2 ≤ 48 ∧ ∀ i, i < 48 → V 202 i ≤ 255
/-- W is V but for what reading holds: at p, f farms read, dams d, figures rf -/
def g_rw (V W : g_V) (p f d : Nat) (rf : Nat → Nat) : Prop :=
  (∀ c, c ≠ 201 → c ≠ 206 → W c = V c) ∧ (∀ k, k ≠ 3 → k ≠ 8 → k ≠ 9 → W 201 k = V 201 k) ∧ (W 201 3 = p ∧ W 201 8 = f ∧ W 201 9 = d) ∧ ∀ i, i < 5 * f → W 206 i = rf i
theorem q_rng_48 {a g : Nat} (ha : a ≤ 255) (hg : g ≤ 9) : q_rng (nI a - nI 48).toInt64 (nI 0).toInt64 (nI g).toInt64 ↔ 48 ≤ a ∧ a ≤ 48 + g := by
  have h : (nI a - nI 48).toInt = (a : Int) - 48 := g_subI (by omega) (by decide)
  unfold q_rng
  rw [Int64.le_iff_toInt_le, Int64.le_iff_toInt_le, Int32.toInt_toInt64, Int32.toInt_toInt64, Int32.toInt_toInt64, h, nI_toInt (by decide), nI_toInt (by omega)]
  omega
def M_fig (n : Nat) (L : Nat → Nat) (p g : Nat) : Int32 := if q_okf n L p g then nI (L p - 48) else -9
theorem M_fig_t {n p g : Nat} {L : Nat → Nat} (h : q_okf n L p g) : M_fig n L p g = nI (L p - 48) := if_pos h
theorem M_fig_f {n p g : Nat} {L : Nat → Nat} (h : ¬ q_okf n L p g) : M_fig n L p g = -9 := if_neg h
theorem M_fig_9 {n p g : Nat} {L : Nat → Nat} (hg : g ≤ 9) : M_fig n L p g = -9 ↔ ¬ q_okf n L p g := by
  constructor
  · intro h q
    rw [M_fig_t q] at h
    have h2 := congrArg Int32.toInt h
    have := q.2.2
    rw [nI_toInt (by omega), show (-9 : Int32).toInt = -9 from by decide] at h2
    omega
  · exact M_fig_f
set_option maxRecDepth 4000 in
theorem c_M_figure {G : g_G} (l : Launch) (V : g_V) (S : g_L) (hT : M_T V) (hp : V 201 3 ≤ V 201 2) (g : Nat) (hg : g ≤ 9) : g_C G l y_M_figure b_M_figure 3 (some .int) 2 [.ref (g_a G (201)), .int (nI (0)), .int (nI (g))] V S (fun r V' S' => S' = S ∧ r = some (.int (M_fig (V 201 2) (V 202) (V 201 3) g)) ∧ (q_okf (V 201 2) (V 202) (V 201 3) g → V' = g_up V 201 3 (V 201 3 + 1)) ∧ (¬ q_okf (V 201 2) (V 202) (V 201 3) g → V' = V)) := by
  refine g_C.of (lv := [some (.ref (g_a G (201))), some (.int (nI (0))), some (.int (nI (g)))]) (by decide +kernel) rfl rfl rfl (Nat.le_of_ble_eq_true rfl) ?_
  have hl := hT.1
  refine j_aload_n (i := 0) d_M_figure_0 rfl lg0 ?_
  refine gf_M_65 d_M_figure_1 ?_
  refine j_aload_n (i := 0) d_M_figure_4 rfl lg0 ?_
  refine gf_M_62 d_M_figure_5 ?_
  refine j_icmp_eqN (tgt := 34) d_M_figure_8 (by decide) (by omega) (by omega) (fun h_8 => ?_) (fun h_8 => ?_)
  ·
    have hbad : ¬ q_okf (V 201 2) (V 202) (V 201 3) g := fun q => by first | (have := q.1; omega) | exact h_31 ((q_rng_48 h255 hg).mpr q.2)
    refine j_bipush (v := -9) d_M_figure_34 (by decide) ?_
    refine j_iret d_M_figure_36 ⟨rfl, by rw [M_fig_f hbad], fun q => absurd q hbad, fun _ => rfl⟩
  ·
    have h255 := hT.2 (V 201 3) (by omega)
    refine j_aload_n (i := 0) d_M_figure_11 rfl lg0 ?_
    refine gf_M_7 d_M_figure_12 ?_
    refine j_aload_n (i := 0) d_M_figure_15 rfl lg0 ?_
    refine gf_M_65 d_M_figure_16 ?_
    refine j_iald d_M_figure_19 gI_202 (by omega) ?_
    refine j_bipushN (k := 48) d_M_figure_20 (by decide) ?_
    refine j_isub d_M_figure_22 ?_
    refine j_i2l d_M_figure_23 ?_
    refine j_iload_n (i := 1) d_M_figure_24 rfl lg1 ?_
    refine j_i2l d_M_figure_25 ?_
    refine j_iload_n (i := 2) d_M_figure_26 rfl lg2 ?_
    refine j_i2l d_M_figure_27 ?_
    refine cl_M_54 (c_M_in l V S (((nI (V 202 (V 201 3))) - (nI (48))).toInt64) ((nI (0)).toInt64) ((nI (g)).toInt64)) d_M_figure_28 rfl rfl (g_ftM (by decide)) (Nat.le_of_ble_eq_true rfl) (g_pu ?_)
    refine j_if_neB (tgt := 37) d_M_figure_31 (by decide) (fun h_31 => ?_) (fun h_31 => ?_)
    ·
      have hok := (q_rng_48 h255 hg).mp h_31
      have hokf : q_okf (V 201 2) (V 202) (V 201 3) g := ⟨by omega, hok⟩
      refine j_aload_n (i := 0) d_M_figure_37 rfl lg0 ?_
      refine j_dup d_M_figure_38 rfl ?_
      refine gf_M_65 d_M_figure_39 ?_
      refine j_iconstN (k := 1) d_M_figure_42 (by decide) ?_
      refine j_iaddN d_M_figure_43 ?_
      refine pf_M_65 d_M_figure_44 ?_
      refine j_aload_n (i := 0) d_M_figure_47 rfl lg0 ?_
      refine gf_M_7 d_M_figure_48 ?_
      refine j_aload_n (i := 0) d_M_figure_51 rfl lg0 ?_
      refine gf_M_65 d_M_figure_52 ?_
      refine j_eqv (b := (V 201 3) + 1) (by rw [g_upS]) ?_
      refine j_iconstN (k := 1) d_M_figure_55 (by decide) ?_
      refine j_isubN d_M_figure_56 (by omega) ?_
      rw [Nat.add_sub_cancel]
      refine j_iald d_M_figure_57 gI_202 (by omega) ?_
      refine j_eqv (b := V 202 (V 201 3)) (by rw [g_upN (by first | decide | omega | (unfold hB; omega))]) ?_
      refine j_bipushN (k := 48) d_M_figure_58 (by decide) ?_
      refine j_isubN d_M_figure_60 (by omega) ?_
      refine j_iret d_M_figure_61 ⟨rfl, by rw [M_fig_t hokf], fun _ => rfl, fun q => absurd hokf q⟩
    ·
      have hbad : ¬ q_okf (V 201 2) (V 202) (V 201 3) g := fun q => by first | (have := q.1; omega) | exact h_31 ((q_rng_48 h255 hg).mpr q.2)
      refine j_bipush (v := -9) d_M_figure_34 (by decide) ?_
      refine j_iret d_M_figure_36 ⟨rfl, by rw [M_fig_f hbad], fun q => absurd q hbad, fun _ => rfl⟩
theorem g_rw_T {V W : g_V} {p f d : Nat} {rf : Nat → Nat} (h : g_rw V W p f d rf) (hT : M_T V) : M_T W := by
  unfold M_T; rw [h.2.1 2 (by decide) (by decide) (by decide), h.1 202 (by decide) (by decide)]; exact hT
theorem g_great_if {k : Nat} (hk : k < 5) : g_great k = if k = 1 ∨ k = 4 then 3 else 9 := by
  rcases (show k = 0 ∨ k = 1 ∨ k = 2 ∨ k = 3 ∨ k = 4 by omega) with e | e | e | e | e <;> subst e <;> rfl
/-- a farm's figures, k of them read -/
def g_rk (V W : g_V) (p f d k : Nat) (rf : Nat → Nat) : Prop := g_rw V W (p + k) f d rf ∧ ∀ j, j < k → W 206 (5 * f + j) = V 202 (p + j) - 48
theorem g_rk_step {V W : g_V} {p f d k : Nat} {rf : Nat → Nat} (h : g_rk V W p f d k rf) : g_rk V (g_up (g_up W 201 3 (p + k + 1)) 206 (5 * f + k) (V 202 (p + k) - 48)) p f d (k + 1) rf := by
  obtain ⟨⟨h1, h2, ⟨h3, h4, h5⟩, h6⟩, h7⟩ := h
  refine ⟨⟨fun c a b => by rw [g_up_ne b, g_up_ne a]; exact h1 c a b, fun i a b c => by rw [g_upN (by decide), g_upK a]; exact h2 i a b c, ⟨by rw [g_upN (by decide), g_upS, Nat.add_assoc], by rw [g_upN (by decide), g_upK (by decide)]; exact h4, by rw [g_upN (by decide), g_upK (by decide)]; exact h5⟩, fun i hi => by rw [g_upK (by omega), g_upN (by decide)]; exact h6 i hi⟩, fun j hj => ?_⟩
  by_cases e : j = k
  · subst e; rw [g_upS]
  · rw [g_upK (by omega), g_upN (by decide)]; exact h7 j (by omega)
theorem g_rk_end {V W : g_V} {p f d : Nat} {rf : Nat → Nat} (h : g_rk V W p f d 5 rf) : g_rw V (g_up W 201 8 (f + 1)) (p + 5) (f + 1) d (q_rd (V 202) p f rf) := by
  obtain ⟨⟨h1, h2, ⟨h3, h4, h5⟩, h6⟩, h7⟩ := h
  refine ⟨fun c a b => by rw [g_up_ne a]; exact h1 c a b, fun i a b c => by rw [g_upK b]; exact h2 i a b c, ⟨by rw [g_upK (by decide)]; exact h3, g_upS, by rw [g_upK (by decide)]; exact h5⟩, fun i hi => ?_⟩
  rw [g_upN (by decide)]
  unfold q_rd
  by_cases e : 5 * f ≤ i
  · rw [if_pos ⟨e, by omega⟩]
    have := h7 (i - 5 * f) (by omega)
    rw [show 5 * f + (i - 5 * f) = i by omega] at this
    exact this
  · rw [if_neg (by omega)]; exact h6 i (by omega)
set_option maxRecDepth 4000 in
theorem lp_M_readFarm {G : g_G} (l : Launch) (V : g_V) (S : g_L) (hT : M_T V) (p f d : Nat) (rf : Nat → Nat) (hf : f < 6) : ∀ (n : Nat) (k : Nat) (W : g_V), (g_rk V W p f d k rf) → (k ≤ 5) → (p + k ≤ V 201 2) → (q_rf (V 201 2) (V 202) p 5 0 = q_rf (V 201 2) (V 202) p (5 - k) k) → 5 - k < n → JW G (g_M G l 3 (some .boolean) (fun r V' S' => S' = S ∧ ((q_rf (V 201 2) (V 202) p 5 0 < 5 ∧ r = some (.int (nI 0)) ∧ g_rw V V' (p + q_rf (V 201 2) (V 202) p 5 0) f d rf) ∨ (¬ q_rf (V 201 2) (V 202) p 5 0 < 5 ∧ r = some (.int (nI 1)) ∧ g_rw V V' (p + 5) (f + 1) d (q_rd (V 202) p f rf))))) b_M_readFarm R_M 9 [some (.ref (g_a G (201))), some (.int (nI (5 * f))), some (.int (nI (k))), none] [] W S := by
  intro n
  induction n with
  | zero => intro k W hR hk hpk hrf hm; exact absurd hm (Nat.not_lt_zero _)
  | succ n ih =>
    intro k W hR hk hpk hrf hm
    have wp := hR.1.2.2.1.1
    have w8 := hR.1.2.2.1.2.1
    have w2 : W 201 2 = V 201 2 := hR.1.2.1 2 (by decide) (by decide) (by decide)
    have w202 : W 202 = V 202 := hR.1.1 202 (by decide) (by decide)
    have hl := hT.1
    refine j_iload_n (i := 2) d_M_readFarm_9 rfl lg2 ?_
    refine j_iconstN (k := 5) d_M_readFarm_10 (by decide) ?_
    refine j_icmp_geN (tgt := 59) d_M_readFarm_11 (by decide) (by omega) (by omega) (fun h_11 => ?_) (fun h_11 => ?_)
    ·
      obtain rfl : k = 5 := by omega
      refine j_aload_n (i := 0) d_M_readFarm_59 rfl lg0 ?_
      refine j_dup d_M_readFarm_60 rfl ?_
      refine gf_M_68 d_M_readFarm_61 ?_
      rw [w8]
      refine j_iconstN (k := 1) d_M_readFarm_64 (by decide) ?_
      refine j_iaddN d_M_readFarm_65 ?_
      refine pf_M_68 d_M_readFarm_66 ?_
      refine j_iconstN (k := 1) d_M_readFarm_69 (by decide) ?_
      refine j_zret d_M_readFarm_70 (by decide) ⟨rfl, Or.inr ⟨by rw [hrf]; exact Nat.lt_irrefl 5, rfl, g_rk_end hR⟩⟩
    ·
      refine j_aload_n (i := 0) d_M_readFarm_14 rfl lg0 ?_
      refine j_iconstN (k := 0) d_M_readFarm_15 (by decide) ?_
      refine j_iload_n (i := 2) d_M_readFarm_16 rfl lg2 ?_
      refine j_iconstN (k := 1) d_M_readFarm_17 (by decide) ?_
      refine j_icmp_eqN (tgt := 26) d_M_readFarm_18 (by decide) (by omega) (by omega) (fun h_18 => ?_) (fun h_18 => ?_)
      ·
        refine j_iconstN (k := 3) d_M_readFarm_26 (by decide) ?_
        refine j_goto (tgt := 32) d_M_readFarm_27 (by decide) ?_
        have hgr : g_great k = 3 := by rw [g_great_if (by omega), if_pos (by omega)]
        rw [show nI 3 = nI (g_great k) from by rw [hgr]]
        refine cl_M_71 (c_M_figure l W S (g_rw_T hR.1 hT) (by rw [wp, w2]; omega) (g_great k) g_great_le) d_M_readFarm_32 rfl rfl (g_ftM (by decide)) (Nat.le_of_ble_eq_true rfl) ?_
        rintro _ W1 S1 ⟨hS1, rfl, hy1, hy2⟩
        rw [hS1, wp, w2, w202]
        rw [wp, w2, w202] at hy1 hy2
        refine j_istore_n d_M_readFarm_35 rfl ls3i ?_
        refine j_iload_n (i := 3) d_M_readFarm_36 rfl lg3 ?_
        refine j_bipush (v := -9) d_M_readFarm_37 (by decide) ?_
        refine j_icmp_ne (tgt := 44) d_M_readFarm_39 (by decide) (fun h_39 => ?_) (fun h_39 => ?_)
        ·
          have hok : q_okf (V 201 2) (V 202) (p + k) (g_great k) := Classical.not_not.mp (fun q => h_39 ((M_fig_9 (Nat.le_trans g_great_le (by decide))).mpr q))
          obtain rfl := hy1 hok
          rw [M_fig_t hok]
          refine j_aload_n (i := 0) d_M_readFarm_44 rfl lg0 ?_
          refine gf_M_22 d_M_readFarm_45 ?_
          refine j_iload_n (i := 1) d_M_readFarm_48 rfl lg1 ?_
          refine j_iload_n (i := 2) d_M_readFarm_49 rfl lg2 ?_
          refine j_iaddN d_M_readFarm_50 ?_
          refine j_iload_n (i := 3) d_M_readFarm_51 rfl lg3 ?_
          refine j_iast d_M_readFarm_52 gI_206 (by omega) ?_
          refine j_iincN (k := 1) d_M_readFarm_53 lg2 (by decide) ls2i ?_
          refine j_goto (tgt := 9) d_M_readFarm_56 (by decide) ?_
          have hst := g_rk_step hR
          refine j_fg 3 (ih (k + 1) _ hst (by omega) (by have := hok.1; omega) (by rw [hrf, q_rf_t (by omega) hok]) (by omega))
        ·
          have hbad := (M_fig_9 (Nat.le_trans g_great_le (by decide))).mp h_39
          obtain rfl := hy2 hbad
          refine j_iconstN (k := 0) d_M_readFarm_42 (by decide) ?_
          refine j_zret d_M_readFarm_43 (by decide) ⟨rfl, Or.inl ⟨by rw [hrf, q_rf_f (by omega) hbad]; omega, rfl, by rw [hrf, q_rf_f (by omega) hbad]; exact hR.1⟩⟩
      ·
        refine j_iload_n (i := 2) d_M_readFarm_21 rfl lg2 ?_
        refine j_iconstN (k := 4) d_M_readFarm_22 (by decide) ?_
        refine j_icmp_neN (tgt := 30) d_M_readFarm_23 (by decide) (by omega) (by omega) (fun h_23 => ?_) (fun h_23 => ?_)
        ·
          refine j_bipushN (k := 9) d_M_readFarm_30 (by decide) ?_
          have hgr : g_great k = 9 := by rw [g_great_if (by omega), if_neg (by omega)]
          rw [show nI 9 = nI (g_great k) from by rw [hgr]]
          refine cl_M_71 (c_M_figure l W S (g_rw_T hR.1 hT) (by rw [wp, w2]; omega) (g_great k) g_great_le) d_M_readFarm_32 rfl rfl (g_ftM (by decide)) (Nat.le_of_ble_eq_true rfl) ?_
          rintro _ W1 S1 ⟨hS1, rfl, hy1, hy2⟩
          rw [hS1, wp, w2, w202]
          rw [wp, w2, w202] at hy1 hy2
          refine j_istore_n d_M_readFarm_35 rfl ls3i ?_
          refine j_iload_n (i := 3) d_M_readFarm_36 rfl lg3 ?_
          refine j_bipush (v := -9) d_M_readFarm_37 (by decide) ?_
          refine j_icmp_ne (tgt := 44) d_M_readFarm_39 (by decide) (fun h_39 => ?_) (fun h_39 => ?_)
          ·
            have hok : q_okf (V 201 2) (V 202) (p + k) (g_great k) := Classical.not_not.mp (fun q => h_39 ((M_fig_9 (Nat.le_trans g_great_le (by decide))).mpr q))
            obtain rfl := hy1 hok
            rw [M_fig_t hok]
            refine j_aload_n (i := 0) d_M_readFarm_44 rfl lg0 ?_
            refine gf_M_22 d_M_readFarm_45 ?_
            refine j_iload_n (i := 1) d_M_readFarm_48 rfl lg1 ?_
            refine j_iload_n (i := 2) d_M_readFarm_49 rfl lg2 ?_
            refine j_iaddN d_M_readFarm_50 ?_
            refine j_iload_n (i := 3) d_M_readFarm_51 rfl lg3 ?_
            refine j_iast d_M_readFarm_52 gI_206 (by omega) ?_
            refine j_iincN (k := 1) d_M_readFarm_53 lg2 (by decide) ls2i ?_
            refine j_goto (tgt := 9) d_M_readFarm_56 (by decide) ?_
            have hst := g_rk_step hR
            refine j_fg 3 (ih (k + 1) _ hst (by omega) (by have := hok.1; omega) (by rw [hrf, q_rf_t (by omega) hok]) (by omega))
          ·
            have hbad := (M_fig_9 (Nat.le_trans g_great_le (by decide))).mp h_39
            obtain rfl := hy2 hbad
            refine j_iconstN (k := 0) d_M_readFarm_42 (by decide) ?_
            refine j_zret d_M_readFarm_43 (by decide) ⟨rfl, Or.inl ⟨by rw [hrf, q_rf_f (by omega) hbad]; omega, rfl, by rw [hrf, q_rf_f (by omega) hbad]; exact hR.1⟩⟩
        ·
          refine j_iconstN (k := 3) d_M_readFarm_26 (by decide) ?_
          refine j_goto (tgt := 32) d_M_readFarm_27 (by decide) ?_
          have hgr : g_great k = 3 := by rw [g_great_if (by omega), if_pos (by omega)]
          rw [show nI 3 = nI (g_great k) from by rw [hgr]]
          refine cl_M_71 (c_M_figure l W S (g_rw_T hR.1 hT) (by rw [wp, w2]; omega) (g_great k) g_great_le) d_M_readFarm_32 rfl rfl (g_ftM (by decide)) (Nat.le_of_ble_eq_true rfl) ?_
          rintro _ W1 S1 ⟨hS1, rfl, hy1, hy2⟩
          rw [hS1, wp, w2, w202]
          rw [wp, w2, w202] at hy1 hy2
          refine j_istore_n d_M_readFarm_35 rfl ls3i ?_
          refine j_iload_n (i := 3) d_M_readFarm_36 rfl lg3 ?_
          refine j_bipush (v := -9) d_M_readFarm_37 (by decide) ?_
          refine j_icmp_ne (tgt := 44) d_M_readFarm_39 (by decide) (fun h_39 => ?_) (fun h_39 => ?_)
          ·
            have hok : q_okf (V 201 2) (V 202) (p + k) (g_great k) := Classical.not_not.mp (fun q => h_39 ((M_fig_9 (Nat.le_trans g_great_le (by decide))).mpr q))
            obtain rfl := hy1 hok
            rw [M_fig_t hok]
            refine j_aload_n (i := 0) d_M_readFarm_44 rfl lg0 ?_
            refine gf_M_22 d_M_readFarm_45 ?_
            refine j_iload_n (i := 1) d_M_readFarm_48 rfl lg1 ?_
            refine j_iload_n (i := 2) d_M_readFarm_49 rfl lg2 ?_
            refine j_iaddN d_M_readFarm_50 ?_
            refine j_iload_n (i := 3) d_M_readFarm_51 rfl lg3 ?_
            refine j_iast d_M_readFarm_52 gI_206 (by omega) ?_
            refine j_iincN (k := 1) d_M_readFarm_53 lg2 (by decide) ls2i ?_
            refine j_goto (tgt := 9) d_M_readFarm_56 (by decide) ?_
            have hst := g_rk_step hR
            refine j_fg 3 (ih (k + 1) _ hst (by omega) (by have := hok.1; omega) (by rw [hrf, q_rf_t (by omega) hok]) (by omega))
          ·
            have hbad := (M_fig_9 (Nat.le_trans g_great_le (by decide))).mp h_39
            obtain rfl := hy2 hbad
            refine j_iconstN (k := 0) d_M_readFarm_42 (by decide) ?_
            refine j_zret d_M_readFarm_43 (by decide) ⟨rfl, Or.inl ⟨by rw [hrf, q_rf_f (by omega) hbad]; omega, rfl, by rw [hrf, q_rf_f (by omega) hbad]; exact hR.1⟩⟩
set_option maxRecDepth 4000 in
theorem c_M_readFarm {G : g_G} (l : Launch) (V : g_V) (S : g_L) (V0 : g_V) (hT : M_T V0) (p f d : Nat) (rf : Nat → Nat) (hf : f < 6) (hR : g_rw V0 V p f d rf) (hpn : p ≤ V0 201 2) : g_C G l y_M_readFarm b_M_readFarm 4 (some .boolean) 3 [.ref (g_a G (201))] V S (fun r V' S' => S' = S ∧ ((q_rf (V0 201 2) (V0 202) p 5 0 < 5 ∧ r = some (.int (nI 0)) ∧ g_rw V0 V' (p + q_rf (V0 201 2) (V0 202) p 5 0) f d rf) ∨ (¬ q_rf (V0 201 2) (V0 202) p 5 0 < 5 ∧ r = some (.int (nI 1)) ∧ g_rw V0 V' (p + 5) (f + 1) d (q_rd (V0 202) p f rf)))) := by
  refine g_C.of (lv := [some (.ref (g_a G (201))), none, none, none]) (by decide +kernel) rfl rfl rfl (Nat.le_of_ble_eq_true rfl) ?_
  refine j_iconstN (k := 5) d_M_readFarm_0 (by decide) ?_
  refine j_aload_n (i := 0) d_M_readFarm_1 rfl lg0 ?_
  refine gf_M_68 d_M_readFarm_2 ?_
  rw [hR.2.2.1.2.1]
  refine j_imulN d_M_readFarm_5 ?_
  refine j_istore_n d_M_readFarm_6 rfl ls1r ?_
  refine j_iconstN (k := 0) d_M_readFarm_7 (by decide) ?_
  refine j_istore_n d_M_readFarm_8 rfl ls2i ?_
  exact lp_M_readFarm l V0 S hT p f d rf hf _ 0 V ⟨hR, fun j hj => absurd hj (Nat.not_lt_zero j)⟩ (by decide) hpn rfl (Nat.lt_succ_self _)
theorem q_can : ∀ f, f < 7 → ∀ d, d < 2 ^ (f - 1) → ((1 < f ∧ ¬ d = 1 <<< (f - 1) - 1) ↔ q_bc d + 1 < f) := by decide +kernel
theorem g_sh31 {f : Nat} (hf : f ≤ 6) : 1 <<< (f - 1) < 2 ^ 31 ∧ 1 ≤ 1 <<< (f - 1) := by
  rcases (show f = 0 ∨ f = 1 ∨ f = 2 ∨ f = 3 ∨ f = 4 ∨ f = 5 ∨ f = 6 by omega) with e | e | e | e | e | e | e <;> subst e <;> decide
set_option maxRecDepth 4000 in
theorem c_M_canDam {G : g_G} (l : Launch) (V : g_V) (S : g_L) (f d : Nat) (hf : f ≤ 6) (hd : d < 2 ^ (f - 1)) (e8 : V 201 8 = f) (e9 : V 201 9 = d) : g_C G l y_M_canDam b_M_canDam 1 (some .boolean) 1 [.ref (g_a G (201))] V S (fun r V' S' => r = some (.int (nI (g_z (decide (q_bc d + 1 < f))))) ∧ V' = V ∧ S' = S) := by
  refine g_C.of (lv := [some (.ref (g_a G (201)))]) (by decide +kernel) rfl rfl rfl (Nat.le_of_ble_eq_true rfl) ?_
  have hsh := g_sh31 hf
  have hcan := q_can f (by omega) d hd
  have hd2 : d < 2 ^ 31 := by rw [Nat.one_shiftLeft] at hsh; omega
  refine j_aload_n (i := 0) d_M_canDam_0 rfl lg0 ?_
  refine gf_M_68 d_M_canDam_1 ?_
  rw [e8]
  refine j_iconstN (k := 1) d_M_canDam_4 (by decide) ?_
  refine j_icmp_leN (tgt := 29) d_M_canDam_5 (by decide) (by omega) (by omega) (fun h_5 => ?_) (fun h_5 => ?_)
  ·
    refine j_iconstN (k := 0) d_M_canDam_29 (by decide) ?_
    refine j_zret d_M_canDam_30 (by decide) ⟨g_z0 (fun q => by have q2 := hcan.mpr q; first | exact q2.2 h_22 | (have := q2.1; omega)), rfl, rfl⟩
  ·
    refine j_aload_n (i := 0) d_M_canDam_8 rfl lg0 ?_
    refine gf_M_75 d_M_canDam_9 ?_
    rw [e9]
    refine j_iconstN (k := 1) d_M_canDam_12 (by decide) ?_
    refine j_aload_n (i := 0) d_M_canDam_13 rfl lg0 ?_
    refine gf_M_68 d_M_canDam_14 ?_
    rw [e8]
    refine j_iconstN (k := 1) d_M_canDam_17 (by decide) ?_
    refine j_isubN d_M_canDam_18 (by omega) ?_
    refine j_ishlN d_M_canDam_19 (by omega) ?_
    refine j_iconstN (k := 1) d_M_canDam_20 (by decide) ?_
    refine j_isubN d_M_canDam_21 (by omega) ?_
    refine j_icmp_eqN (tgt := 29) d_M_canDam_22 (by decide) (by omega) (by omega) (fun h_22 => ?_) (fun h_22 => ?_)
    ·
      refine j_iconstN (k := 0) d_M_canDam_29 (by decide) ?_
      refine j_zret d_M_canDam_30 (by decide) ⟨g_z0 (fun q => by have q2 := hcan.mpr q; first | exact q2.2 h_22 | (have := q2.1; omega)), rfl, rfl⟩
    ·
      refine j_iconstN (k := 1) d_M_canDam_25 (by decide) ?_
      refine j_goto (tgt := 30) d_M_canDam_26 (by decide) ?_
      refine j_zret d_M_canDam_30 (by decide) ⟨g_z1 (hcan.mp ⟨by omega, h_22⟩), rfl, rfl⟩
theorem g_rw_dam {V0 V : g_V} {p f d x : Nat} {rf : Nat → Nat} (h : g_rw V0 V p f d rf) : g_rw V0 (g_up (g_up V 201 3 (p + 1)) 201 9 x) (p + 1) f x rf := by
  obtain ⟨h1, h2, ⟨h3, h4, h5⟩, h6⟩ := h
  exact ⟨fun c a b => by rw [g_up_ne a, g_up_ne a]; exact h1 c a b, fun i a b c => by rw [g_upK c, g_upK a]; exact h2 i a b c, ⟨by rw [g_upK (by decide), g_upS], by rw [g_upK (by decide), g_upK (by decide)]; exact h4, g_upS⟩, fun i hi => by rw [g_upN (by decide), g_upN (by decide)]; exact h6 i hi⟩
theorem g_rw_p {V0 V : g_V} {p f d q : Nat} {rf : Nat → Nat} (h : g_rw V0 V p f d rf) : g_rw V0 (g_up V 201 3 q) q f d rf := by
  obtain ⟨h1, h2, ⟨h3, h4, h5⟩, h6⟩ := h
  exact ⟨fun c a b => by rw [g_up_ne a]; exact h1 c a b, fun i a b c => by rw [g_upK a]; exact h2 i a b c, ⟨g_upS, by rw [g_upK (by decide)]; exact h4, by rw [g_upK (by decide)]; exact h5⟩, fun i hi => by rw [g_upN (by decide)]; exact h6 i hi⟩
theorem q_in_sub {a f : Nat} (ha : a ≤ 255) (hf : f ≤ 6) : (q_in (nI a - nI 48) f ∧ q_n (nI a - nI 48) + 1 < f) ↔ 48 ≤ a ∧ a - 48 + 1 < f := by
  have h : (nI a - nI 48).toInt = (a : Int) - 48 := g_subI (by omega) (by decide)
  unfold q_in q_n
  rw [h]
  omega
theorem q_in_m9 {f : Nat} : ¬ q_in (-9) f := fun q => by have h := q.1; rw [show (-9 : Int32).toInt = -9 from by decide] at h; omega
set_option maxRecDepth 4000 in
theorem c_M_readDam {G : g_G} (l : Launch) (V : g_V) (S : g_L) (V0 : g_V) (hT : M_T V0) (p f d : Nat) (rf : Nat → Nat) (hf : f ≤ 6) (hd : d < 64) (hR : g_rw V0 V p f d rf) (hpn : p ≤ V0 201 2) : g_C G l y_M_readDam b_M_readDam 2 (some .boolean) 2 [.ref (g_a G (201))] V S (fun r V' S' => S' = S ∧ ((q_okd (V0 201 2) (V0 202) p f d ∧ r = some (.int (nI 1)) ∧ g_rw V0 V' (p + 1) f (d ||| 1 <<< (V0 202 p - 48)) rf) ∨ (¬ q_okd (V0 201 2) (V0 202) p f d ∧ r = some (.int (nI 0)) ∧ V' = V))) := by
  refine g_C.of (lv := [some (.ref (g_a G (201))), none]) (by decide +kernel) rfl rfl rfl (Nat.le_of_ble_eq_true rfl) ?_
  have hl := hT.1
  obtain ⟨h1, h2, ⟨e3, e8, e9⟩, h6⟩ := hR
  have e2 : V 201 2 = V0 201 2 := h2 2 (by decide) (by decide) (by decide)
  have e202 : V 202 = V0 202 := h1 202 (by decide) (by decide)
  have hR : g_rw V0 V p f d rf := ⟨h1, h2, ⟨e3, e8, e9⟩, h6⟩
  refine j_aload_n (i := 0) d_M_readDam_0 rfl lg0 ?_
  refine gf_M_65 d_M_readDam_1 ?_
  rw [e3]
  refine j_aload_n (i := 0) d_M_readDam_4 rfl lg0 ?_
  refine gf_M_62 d_M_readDam_5 ?_
  rw [e2]
  refine j_icmp_geN (tgt := 26) d_M_readDam_8 (by decide) (by omega) (by omega) (fun h_8 => ?_) (fun h_8 => ?_)
  ·
    refine j_bipush (v := -9) d_M_readDam_26 (by decide) ?_
    refine j_istore_n d_M_readDam_28 rfl ls1r ?_
    refine j_iload_n (i := 1) d_M_readDam_29 rfl lg1 ?_
    refine j_i2l d_M_readDam_30 ?_
    refine j_lconst (v := 0) d_M_readDam_31 rfl ?_
    refine j_aload_n (i := 0) d_M_readDam_32 rfl lg0 ?_
    refine gf_M_68 d_M_readDam_33 ?_
    rw [e8]
    refine j_iconstN (k := 2) d_M_readDam_36 (by decide) ?_
    refine j_isub d_M_readDam_37 ?_
    refine j_i2l d_M_readDam_38 ?_
    refine cl_M_54 (c_M_in l V S (((-9 : Int32)).toInt64) (0) (((nI (f)) - (nI (2))).toInt64)) d_M_readDam_39 rfl rfl (g_ftM (by decide)) (Nat.le_of_ble_eq_true rfl) (g_pu ?_)
    refine j_if_eqB (tgt := 56) d_M_readDam_42 (by decide) (fun h_42 => ?_) (fun h_42 => ?_)
    ·
      have hbad : ¬ q_okd (V0 201 2) (V0 202) p f d := fun q => by
        first
        | (have := q.1.1; omega)
        | exact q.2.2 h_53
        | exact h_42 ((q_rng_d hf).mpr ((q_in_sub h255 hf).mpr ⟨q.1.2.1, q.2.1⟩))
      refine j_iconstN (k := 0) d_M_readDam_56 (by decide) ?_
      refine j_zret d_M_readDam_57 (by decide) ⟨rfl, Or.inr ⟨hbad, rfl, rfl⟩⟩
    ·
      refine j_aload_n (i := 0) d_M_readDam_45 rfl lg0 ?_
      refine gf_M_75 d_M_readDam_46 ?_
      rw [e9]
      have hi := (q_rng_d hf).mp h_42
      exact absurd hi.1 q_in_m9
  ·
    refine j_aload_n (i := 0) d_M_readDam_11 rfl lg0 ?_
    refine gf_M_7 d_M_readDam_12 ?_
    refine j_aload_n (i := 0) d_M_readDam_15 rfl lg0 ?_
    refine gf_M_65 d_M_readDam_16 ?_
    rw [e3]
    have h255 := hT.2 p (by omega)
    refine j_iald d_M_readDam_19 gI_202 (by omega) ?_
    rw [e202]
    refine j_bipushN (k := 48) d_M_readDam_20 (by decide) ?_
    refine j_isub d_M_readDam_22 ?_
    refine j_goto (tgt := 28) d_M_readDam_23 (by decide) ?_
    refine j_istore_n d_M_readDam_28 rfl ls1r ?_
    refine j_iload_n (i := 1) d_M_readDam_29 rfl lg1 ?_
    refine j_i2l d_M_readDam_30 ?_
    refine j_lconst (v := 0) d_M_readDam_31 rfl ?_
    refine j_aload_n (i := 0) d_M_readDam_32 rfl lg0 ?_
    refine gf_M_68 d_M_readDam_33 ?_
    rw [e8]
    refine j_iconstN (k := 2) d_M_readDam_36 (by decide) ?_
    refine j_isub d_M_readDam_37 ?_
    refine j_i2l d_M_readDam_38 ?_
    refine cl_M_54 (c_M_in l V S (((nI (V0 202 p)) - (nI (48))).toInt64) (0) (((nI (f)) - (nI (2))).toInt64)) d_M_readDam_39 rfl rfl (g_ftM (by decide)) (Nat.le_of_ble_eq_true rfl) (g_pu ?_)
    refine j_if_eqB (tgt := 56) d_M_readDam_42 (by decide) (fun h_42 => ?_) (fun h_42 => ?_)
    ·
      have hbad : ¬ q_okd (V0 201 2) (V0 202) p f d := fun q => by
        first
        | (have := q.1.1; omega)
        | exact q.2.2 h_53
        | exact h_42 ((q_rng_d hf).mpr ((q_in_sub h255 hf).mpr ⟨q.1.2.1, q.2.1⟩))
      refine j_iconstN (k := 0) d_M_readDam_56 (by decide) ?_
      refine j_zret d_M_readDam_57 (by decide) ⟨rfl, Or.inr ⟨hbad, rfl, rfl⟩⟩
    ·
      refine j_aload_n (i := 0) d_M_readDam_45 rfl lg0 ?_
      refine gf_M_75 d_M_readDam_46 ?_
      rw [e9]
      have hi := (q_rng_d hf).mp h_42
      have hi2 := (q_in_sub h255 hf).mp hi
      rw [nI_sub hi2.1]
      refine j_iload_n (i := 1) d_M_readDam_49 rfl lg1 ?_
      refine cl_M_78 (c_M_has l V S (d) (V0 202 p - 48) (by omega) (by omega)) d_M_readDam_50 rfl rfl (g_ftM (by decide)) (Nat.le_of_ble_eq_true rfl) (g_pu ?_)
      refine j_if_eqB (tgt := 58) d_M_readDam_53 (by decide) (fun h_53 => ?_) (fun h_53 => ?_)
      ·
        refine j_aload_n (i := 0) d_M_readDam_58 rfl lg0 ?_
        refine j_dup d_M_readDam_59 rfl ?_
        refine gf_M_65 d_M_readDam_60 ?_
        refine j_iconstN (k := 1) d_M_readDam_63 (by decide) ?_
        rw [e3]
        refine j_iaddN d_M_readDam_64 ?_
        refine pf_M_65 d_M_readDam_65 ?_
        refine j_aload_n (i := 0) d_M_readDam_68 rfl lg0 ?_
        refine j_dup d_M_readDam_69 rfl ?_
        refine gf_M_75 d_M_readDam_70 ?_
        refine j_eqv (b := V 201 9) (by rw [g_upK (by decide)]) ?_
        rw [e9]
        refine j_iconstN (k := 1) d_M_readDam_73 (by decide) ?_
        refine j_iload_n (i := 1) d_M_readDam_74 rfl lg1 ?_
        refine j_ishlN d_M_readDam_75 (by omega) ?_
        refine j_iorN d_M_readDam_76 ?_
        refine pf_M_75 d_M_readDam_77 ?_
        refine j_iconstN (k := 1) d_M_readDam_80 (by decide) ?_
        refine j_zret d_M_readDam_81 (by decide) ⟨rfl, Or.inl ⟨⟨⟨by omega, by omega, by omega⟩, hi2.2, h_53⟩, rfl, g_rw_dam hR⟩⟩
      ·
        have hbad : ¬ q_okd (V0 201 2) (V0 202) p f d := fun q => by
          first
          | (have := q.1.1; omega)
          | exact q.2.2 h_53
          | exact h_42 ((q_rng_d hf).mpr ((q_in_sub h255 hf).mpr ⟨q.1.2.1, q.2.1⟩))
        refine j_iconstN (k := 0) d_M_readDam_56 (by decide) ?_
        refine j_zret d_M_readDam_57 (by decide) ⟨rfl, Or.inr ⟨hbad, rfl, rfl⟩⟩
theorem q_rf_5 {n p : Nat} {L : Nat → Nat} (h : ¬ q_rf n L p 5 0 < 5) : p + 5 ≤ n := by
  rcases Nat.lt_or_ge (p + 4) n with q | q
  · omega
  · exfalso
    have key : ∀ i, i ≤ 4 → q_rf n L p (5 - i) i ≤ 4 := fun i => by
      induction hk : 4 - i generalizing i with
      | zero =>
        intro hi
        obtain rfl : i = 4 := by omega
        rw [q_rf_f (by decide) (fun k => by have := k.1; omega)]
        exact Nat.le_refl 4
      | succ k ih =>
        intro hi
        by_cases e : q_okf n L (p + i) (g_great i)
        · rw [q_rf_t (by omega) e]
          exact ih (i + 1) (by omega) (by omega)
        · rw [q_rf_f (by omega) e]; omega
    exact absurd (key 0 (by decide)) (by show ¬ q_rf n L p 5 0 ≤ 4; omega)
theorem q_rf_in {n p : Nat} {L : Nat → Nat} (hp : p ≤ n) (h : q_rf n L p 5 0 < 5) : p + q_rf n L p 5 0 ≤ n := by
  have key : ∀ i, i ≤ 5 → p + i ≤ n → p + q_rf n L p (5 - i) i ≤ n := fun i => by
    induction hk : 5 - i generalizing i with
    | zero => intro hi h2; exact h2
    | succ k ih =>
      intro hi h2
      by_cases e : q_okf n L (p + i) (g_great i)
      · have h3 := q_rf_t (n := n) (p := p) (L := L) (i := i) (by omega) e
        rw [hk] at h3
        rw [h3, show 5 - (i + 1) = k by omega]
        exact ih (i + 1) (by omega) (by omega) (by have := e.1; omega)
      · have h3 := q_rf_f (n := n) (p := p) (L := L) (i := i) (by omega) e
        rw [hk] at h3
        rw [h3]; exact h2
  exact key 0 (by decide) hp
set_option maxRecDepth 4000 in
theorem c_M_readPart {G : g_G} (l : Launch) (V : g_V) (S : g_L) (V0 : g_V) (hT : M_T V0) (p f d : Nat) (rf : Nat → Nat) (hf : f ≤ 6) (hd : d < 2 ^ (f - 1)) (hR : g_rw V0 V p f d rf) (hpn : p < V0 201 2) : g_C G l y_M_readPart b_M_readPart 2 (some .boolean) 4 [.ref (g_a G (201))] V S (fun r V' S' => S' = S ∧ ((∃ p' f' d' rf', r = some (.int (nI 1)) ∧ g_rw V0 V' p' f' d' rf' ∧ (∀ m, q_ps (V0 201 2) (V0 202) (m + 1) p f d rf = q_ps (V0 201 2) (V0 202) m p' f' d' rf') ∧ p < p' ∧ p' ≤ V0 201 2 ∧ f' ≤ 6 ∧ d' < 2 ^ (f' - 1)) ∨ (∃ q f' d' rf', r = some (.int (nI 0)) ∧ g_rw V0 V' q f' d' rf' ∧ q ≤ V0 201 2 ∧ ∀ m, (q_ps (V0 201 2) (V0 202) (m + 1) p f d rf).1 = some q))) := by
  refine g_C.of (lv := [some (.ref (g_a G (201))), none]) (by decide +kernel) rfl rfl rfl (Nat.le_of_ble_eq_true rfl) ?_
  have hl := hT.1
  have hd64 : d < 64 := Nat.lt_of_lt_of_le hd (Nat.pow_le_pow_right (n := 2) (j := 6) (by decide) (by omega))
  obtain ⟨h1, h2, ⟨e3, e8, e9⟩, h6⟩ := hR
  have e202 : V 202 = V0 202 := h1 202 (by decide) (by decide)
  have hR : g_rw V0 V p f d rf := ⟨h1, h2, ⟨e3, e8, e9⟩, h6⟩
  have hR1 : g_rw V0 (g_up V 201 3 (p + 1)) (p + 1) f d rf := g_rw_p hR
  have h255 := hT.2 p (by omega)
  refine j_aload_n (i := 0) d_M_readPart_0 rfl lg0 ?_
  refine gf_M_7 d_M_readPart_1 ?_
  refine j_aload_n (i := 0) d_M_readPart_4 rfl lg0 ?_
  refine gf_M_65 d_M_readPart_5 ?_
  rw [e3]
  refine j_iald d_M_readPart_8 gI_202 (by omega) ?_
  rw [e202]
  refine j_istore_n d_M_readPart_9 rfl ls1r ?_
  refine j_aload_n (i := 0) d_M_readPart_10 rfl lg0 ?_
  refine j_dup d_M_readPart_11 rfl ?_
  refine gf_M_65 d_M_readPart_12 ?_
  rw [e3]
  refine j_iconstN (k := 1) d_M_readPart_15 (by decide) ?_
  refine j_iaddN d_M_readPart_16 ?_
  refine pf_M_65 d_M_readPart_17 ?_
  refine j_iload_n (i := 1) d_M_readPart_20 rfl lg1 ?_
  refine j_bipushN (k := 70) d_M_readPart_21 (by decide) ?_
  refine j_icmp_neN (tgt := 40) d_M_readPart_23 (by decide) (by omega) (by omega) (fun h_23 => ?_) (fun h_23 => ?_)
  ·
    refine j_iload_n (i := 1) d_M_readPart_40 rfl lg1 ?_
    refine j_bipushN (k := 73) d_M_readPart_41 (by decide) ?_
    refine j_icmp_neN (tgt := 58) d_M_readPart_43 (by decide) (by omega) (by omega) (fun h_43 => ?_) (fun h_43 => ?_)
    ·
      refine j_aload_n (i := 0) d_M_readPart_58 rfl lg0 ?_
      refine j_dup d_M_readPart_59 rfl ?_
      refine gf_M_65 d_M_readPart_60 ?_
      refine j_eqv (b := p + 1) (by rw [g_upS]) ?_
      refine j_iconstN (k := 1) d_M_readPart_63 (by decide) ?_
      refine j_isubN d_M_readPart_64 (by omega) ?_
      rw [show p + 1 - 1 = p from Nat.add_sub_cancel p 1]
      refine pf_M_65 d_M_readPart_65 ?_
      refine j_iconstN (k := 0) d_M_readPart_68 (by decide) ?_
      refine j_zret d_M_readPart_69 (by decide) ⟨rfl, Or.inr ⟨p, f, d, rf, rfl, g_rw_p hR1, by omega, fun m => by rw [q_ps_X (by omega) (fun q => by omega) (fun q => by first | omega | exact h_50 q.2)]⟩⟩
    ·
      refine j_aload_n (i := 0) d_M_readPart_46 rfl lg0 ?_
      refine cl_M_85 (c_M_canDam l (g_up V 201 3 (p + 1)) S f d hf hd hR1.2.2.1.2.1 hR1.2.2.1.2.2) d_M_readPart_47 rfl rfl (g_ftM (by decide)) (Nat.le_of_ble_eq_true rfl) (g_pu ?_)
      refine j_if_eqB (tgt := 58) d_M_readPart_50 (by decide) (fun h_50 => ?_) (fun h_50 => ?_)
      ·
        refine j_aload_n (i := 0) d_M_readPart_58 rfl lg0 ?_
        refine j_dup d_M_readPart_59 rfl ?_
        refine gf_M_65 d_M_readPart_60 ?_
        refine j_eqv (b := p + 1) (by rw [g_upS]) ?_
        refine j_iconstN (k := 1) d_M_readPart_63 (by decide) ?_
        refine j_isubN d_M_readPart_64 (by omega) ?_
        rw [show p + 1 - 1 = p from Nat.add_sub_cancel p 1]
        refine pf_M_65 d_M_readPart_65 ?_
        refine j_iconstN (k := 0) d_M_readPart_68 (by decide) ?_
        refine j_zret d_M_readPart_69 (by decide) ⟨rfl, Or.inr ⟨p, f, d, rf, rfl, g_rw_p hR1, by omega, fun m => by rw [q_ps_X (by omega) (fun q => by omega) (fun q => by first | omega | exact h_50 q.2)]⟩⟩
      ·
        refine j_aload_n (i := 0) d_M_readPart_53 rfl lg0 ?_
        refine cl_M_88 (c_M_readDam l (g_up V 201 3 (p + 1)) S V0 hT (p + 1) f d rf hf hd64 hR1 (by omega)) d_M_readPart_54 rfl rfl (g_ftM (by decide)) (Nat.le_of_ble_eq_true rfl) ?_
        rintro _ W1 S1 ⟨hS1, hq⟩
        rw [hS1]
        rcases hq with ⟨c1, rfl, c3⟩ | ⟨c1, rfl, rfl⟩
        · have hI : V0 202 p = 73 ∧ q_bc d + 1 < f := ⟨h_43, h_50⟩
          have hb : V0 202 (p + 1) - 48 < f - 1 := by have := c1.2.1; omega
          exact j_zret d_M_readPart_57 (by decide) ⟨rfl, Or.inl ⟨_, _, _, _, rfl, c3, fun m => q_ps_I1 (by omega) (fun q => by omega) hI c1, by omega, by have := c1.1.1; omega, hf, Nat.or_lt_two_pow hd (q_bit_lt hb)⟩⟩
        · exact j_zret d_M_readPart_57 (by decide) ⟨rfl, Or.inr ⟨_, _, _, _, rfl, hR1, by omega, fun m => by rw [q_ps_I0 (by omega) (fun q => by omega) ⟨h_43, h_50⟩ c1]⟩⟩
  ·
    refine j_aload_n (i := 0) d_M_readPart_26 rfl lg0 ?_
    refine gf_M_68 d_M_readPart_27 ?_
    refine j_eqv (b := V 201 8) (by rw [g_upK (by decide)]) ?_
    rw [e8]
    refine j_bipushN (k := 6) d_M_readPart_30 (by decide) ?_
    refine j_icmp_geN (tgt := 40) d_M_readPart_32 (by decide) (by omega) (by omega) (fun h_32 => ?_) (fun h_32 => ?_)
    ·
      refine j_iload_n (i := 1) d_M_readPart_40 rfl lg1 ?_
      refine j_bipushN (k := 73) d_M_readPart_41 (by decide) ?_
      refine j_icmp_neN (tgt := 58) d_M_readPart_43 (by decide) (by omega) (by omega) (fun h_43 => ?_) (fun h_43 => ?_)
      ·
        refine j_aload_n (i := 0) d_M_readPart_58 rfl lg0 ?_
        refine j_dup d_M_readPart_59 rfl ?_
        refine gf_M_65 d_M_readPart_60 ?_
        refine j_eqv (b := p + 1) (by rw [g_upS]) ?_
        refine j_iconstN (k := 1) d_M_readPart_63 (by decide) ?_
        refine j_isubN d_M_readPart_64 (by omega) ?_
        rw [show p + 1 - 1 = p from Nat.add_sub_cancel p 1]
        refine pf_M_65 d_M_readPart_65 ?_
        refine j_iconstN (k := 0) d_M_readPart_68 (by decide) ?_
        refine j_zret d_M_readPart_69 (by decide) ⟨rfl, Or.inr ⟨p, f, d, rf, rfl, g_rw_p hR1, by omega, fun m => by rw [q_ps_X (by omega) (fun q => by omega) (fun q => by first | omega | exact h_50 q.2)]⟩⟩
      ·
        refine j_aload_n (i := 0) d_M_readPart_46 rfl lg0 ?_
        refine cl_M_85 (c_M_canDam l (g_up V 201 3 (p + 1)) S f d hf hd hR1.2.2.1.2.1 hR1.2.2.1.2.2) d_M_readPart_47 rfl rfl (g_ftM (by decide)) (Nat.le_of_ble_eq_true rfl) (g_pu ?_)
        refine j_if_eqB (tgt := 58) d_M_readPart_50 (by decide) (fun h_50 => ?_) (fun h_50 => ?_)
        ·
          refine j_aload_n (i := 0) d_M_readPart_58 rfl lg0 ?_
          refine j_dup d_M_readPart_59 rfl ?_
          refine gf_M_65 d_M_readPart_60 ?_
          refine j_eqv (b := p + 1) (by rw [g_upS]) ?_
          refine j_iconstN (k := 1) d_M_readPart_63 (by decide) ?_
          refine j_isubN d_M_readPart_64 (by omega) ?_
          rw [show p + 1 - 1 = p from Nat.add_sub_cancel p 1]
          refine pf_M_65 d_M_readPart_65 ?_
          refine j_iconstN (k := 0) d_M_readPart_68 (by decide) ?_
          refine j_zret d_M_readPart_69 (by decide) ⟨rfl, Or.inr ⟨p, f, d, rf, rfl, g_rw_p hR1, by omega, fun m => by rw [q_ps_X (by omega) (fun q => by omega) (fun q => by first | omega | exact h_50 q.2)]⟩⟩
        ·
          refine j_aload_n (i := 0) d_M_readPart_53 rfl lg0 ?_
          refine cl_M_88 (c_M_readDam l (g_up V 201 3 (p + 1)) S V0 hT (p + 1) f d rf hf hd64 hR1 (by omega)) d_M_readPart_54 rfl rfl (g_ftM (by decide)) (Nat.le_of_ble_eq_true rfl) ?_
          rintro _ W1 S1 ⟨hS1, hq⟩
          rw [hS1]
          rcases hq with ⟨c1, rfl, c3⟩ | ⟨c1, rfl, rfl⟩
          · have hI : V0 202 p = 73 ∧ q_bc d + 1 < f := ⟨h_43, h_50⟩
            have hb : V0 202 (p + 1) - 48 < f - 1 := by have := c1.2.1; omega
            exact j_zret d_M_readPart_57 (by decide) ⟨rfl, Or.inl ⟨_, _, _, _, rfl, c3, fun m => q_ps_I1 (by omega) (fun q => by omega) hI c1, by omega, by have := c1.1.1; omega, hf, Nat.or_lt_two_pow hd (q_bit_lt hb)⟩⟩
          · exact j_zret d_M_readPart_57 (by decide) ⟨rfl, Or.inr ⟨_, _, _, _, rfl, hR1, by omega, fun m => by rw [q_ps_I0 (by omega) (fun q => by omega) ⟨h_43, h_50⟩ c1]⟩⟩
    ·
      refine j_aload_n (i := 0) d_M_readPart_35 rfl lg0 ?_
      refine cl_M_82 (c_M_readFarm l (g_up V 201 3 (p + 1)) S V0 hT (p + 1) f d rf (by omega) hR1 (by omega)) d_M_readPart_36 rfl rfl (g_ftM (by decide)) (Nat.le_of_ble_eq_true rfl) ?_
      rintro _ W1 S1 ⟨hS1, hq⟩
      rw [hS1]
      rcases hq with ⟨c1, rfl, c3⟩ | ⟨c1, rfl, c3⟩
      · exact j_zret d_M_readPart_39 (by decide) ⟨rfl, Or.inr ⟨_, _, _, _, rfl, c3, q_rf_in (by omega) c1, fun m => by rw [q_ps_F0 (by omega) ⟨h_23, h_32⟩ c1]⟩⟩
      · have c5 := q_rf_5 c1
        exact j_zret d_M_readPart_39 (by decide) ⟨rfl, Or.inl ⟨_, _, _, _, rfl, c3, fun m => q_ps_F1 (by omega) ⟨h_23, h_32⟩ c1, by omega, by omega, by omega, Nat.lt_of_lt_of_le hd (Nat.pow_le_pow_right (by decide) (by omega))⟩⟩
set_option maxRecDepth 4000 in
theorem lp_M_readDyke {G : g_G} (l : Launch) (V : g_V) (S : g_L) (hT : M_T V) : ∀ (n : Nat) (W : g_V) (rf : Nat → Nat) (m p f d : Nat), (g_rw V W p f d rf) → ((q_fault (V 201 2) (V 202)) = q_ps (V 201 2) (V 202) m p f d rf) → (f ≤ 6) → (d < 2 ^ (f - 1)) → (p ≤ V 201 2) → (V 201 2 + 1 ≤ p + m) → m < n → JW G (g_M G l 5 (some .int) (fun r V' S' => S' = S ∧ r = some (.int (q_an (q_fault (V 201 2) (V 202)).1)) ∧ ∃ p f d rf, g_rw V V' p f d rf ∧ ((q_fault (V 201 2) (V 202)).1 = none → (q_fault (V 201 2) (V 202)).2 = (f, d, rf) ∧ f ≤ 6 ∧ d < 64))) b_M_readDyke R_M 40 [some (.ref (g_a G (201)))] [] W S := by
  intro n
  induction n with
  | zero => intro W rf m p f d hR he hf hd hpn hpm hm; exact absurd hm (Nat.not_lt_zero _)
  | succ n ih =>
    intro W rf m p f d hR he hf hd hpn hpm hm
    have hl := hT.1
    have w2 : W 201 2 = V 201 2 := hR.2.1 2 (by decide) (by decide) (by decide)
    have hd64 : d < 64 := Nat.lt_of_lt_of_le hd (Nat.pow_le_pow_right (n := 2) (j := 6) (by decide) (by omega))
    refine j_aload_n (i := 0) d_M_readDyke_40 rfl lg0 ?_
    refine gf_M_65 d_M_readDyke_41 ?_
    rw [hR.2.2.1.1]
    refine j_aload_n (i := 0) d_M_readDyke_44 rfl lg0 ?_
    refine gf_M_62 d_M_readDyke_45 ?_
    rw [w2]
    refine j_icmp_geN (tgt := 63) d_M_readDyke_48 (by decide) (by omega) (by omega) (fun h_48 => ?_) (fun h_48 => ?_)
    ·
      obtain ⟨m', rfl⟩ : ∃ m', m = m' + 1 := ⟨m - 1, by omega⟩
      have hE : q_fault (V 201 2) (V 202) = (none, f, d, rf) := by rw [he, q_ps_end (by omega)]
      refine j_bipush (v := -9) d_M_readDyke_63 (by decide) ?_
      refine j_iret d_M_readDyke_65 ⟨rfl, by rw [hE]; rfl, p, f, d, rf, hR, fun _ => by rw [hE]; exact ⟨rfl, hf, hd64⟩⟩
    ·
      refine j_aload_n (i := 0) d_M_readDyke_51 rfl lg0 ?_
      refine cl_M_91 (c_M_readPart l W S V hT p f d rf hf hd hR (by omega)) d_M_readDyke_52 rfl rfl (g_ftM (by decide)) (Nat.le_of_ble_eq_true rfl) ?_
      rintro _ W1 S1 ⟨hS1, hq⟩
      rw [hS1]
      obtain ⟨m', rfl⟩ : ∃ m', m = m' + 1 := ⟨m - 1, by omega⟩
      rcases hq with ⟨p', f', d', rf', rfl, c2, c3, c4, c5, c6, c7⟩ | ⟨q, f', d', rf', rfl, c2, c4, c3⟩
      · refine j_if_neN (tgt := 40) d_M_readDyke_55 (by decide) (by decide) (fun _ => ?_) (fun h => absurd h (by decide))
        exact ih W1 rf' m' p' f' d' c2 (by rw [he, c3]) c6 c7 c5 (by omega) (by omega)
      · refine j_if_neN (tgt := 40) d_M_readDyke_55 (by decide) (by decide) (fun h => absurd rfl h) (fun _ => ?_)
        refine j_aload_n (i := 0) d_M_readDyke_58 rfl lg0 ?_
        refine gf_M_65 d_M_readDyke_59 ?_
        rw [c2.2.2.1.1]
        have e := c3 m'
        rw [← he] at e
        exact j_iret d_M_readDyke_62 ⟨rfl, by rw [e]; rfl, q, f', d', rf', c2, fun h => by rw [e] at h; cases h⟩
theorem g_rw_0 {V : g_V} {p : Nat} {rf : Nat → Nat} : g_rw V (g_up (g_up (g_up V 201 3 p) 201 8 0) 201 9 0) p 0 0 rf :=
  ⟨fun c a b => by rw [g_up_ne a, g_up_ne a, g_up_ne a], fun i a b c => by rw [g_upK c, g_upK b, g_upK a], ⟨by rw [g_upK (by decide), g_upK (by decide), g_upS], by rw [g_upK (by decide), g_upS], g_upS⟩, fun i hi => absurd hi (by omega)⟩
set_option maxRecDepth 4000 in
theorem c_M_readDyke {G : g_G} (l : Launch) (V : g_V) (S : g_L) (hT : M_T V) : g_C G l y_M_readDyke b_M_readDyke 1 (some .int) 5 [.ref (g_a G (201))] V S (fun r V' S' => S' = S ∧ r = some (.int (q_an (q_fault (V 201 2) (V 202)).1)) ∧ ∃ p f d rf, g_rw V V' p f d rf ∧ ((q_fault (V 201 2) (V 202)).1 = none → (q_fault (V 201 2) (V 202)).2 = (f, d, rf) ∧ f ≤ 6 ∧ d < 64)) := by
  refine g_C.of (lv := [some (.ref (g_a G (201)))]) (by decide +kernel) rfl rfl rfl (Nat.le_of_ble_eq_true rfl) ?_
  have hl := hT.1
  have h255 := hT.2 0 (by decide)
  refine j_aload_n (i := 0) d_M_readDyke_0 rfl lg0 ?_
  refine j_iconstN (k := 0) d_M_readDyke_1 (by decide) ?_
  refine pf_M_65 d_M_readDyke_2 ?_
  refine j_aload_n (i := 0) d_M_readDyke_5 rfl lg0 ?_
  refine j_iconstN (k := 0) d_M_readDyke_6 (by decide) ?_
  refine pf_M_68 d_M_readDyke_7 ?_
  refine j_aload_n (i := 0) d_M_readDyke_10 rfl lg0 ?_
  refine j_iconstN (k := 0) d_M_readDyke_11 (by decide) ?_
  refine pf_M_75 d_M_readDyke_12 ?_
  refine j_aload_n (i := 0) d_M_readDyke_15 rfl lg0 ?_
  refine gf_M_62 d_M_readDyke_16 ?_
  refine j_eqv (b := V 201 2) (by rw [g_upK (by decide), g_upK (by decide), g_upK (by decide)]) ?_
  refine j_if_eqN (tgt := 33) d_M_readDyke_19 (by decide) (by omega) (fun h_19 => ?_) (fun h_19 => ?_)
  ·
    have hF : q_fault (V 201 2) (V 202) = (some 0, 0, 0, fun _ => 0) := if_neg (fun q => by first | exact h_30 q.2 | omega)
    refine j_iconstN (k := 0) d_M_readDyke_33 (by decide) ?_
    refine j_iret d_M_readDyke_34 ⟨rfl, by rw [hF]; rfl, 0, 0, 0, fun _ => 0, g_rw_0, fun h => by rw [hF] at h; cases h⟩
  ·
    refine j_aload_n (i := 0) d_M_readDyke_22 rfl lg0 ?_
    refine gf_M_7 d_M_readDyke_23 ?_
    refine j_iconstN (k := 0) d_M_readDyke_26 (by decide) ?_
    refine j_iald d_M_readDyke_27 gI_202 (by omega) ?_
    refine j_eqv (b := V 202 0) (by rw [g_upN (by first | decide | omega | (unfold hB; omega)), g_upN (by first | decide | omega | (unfold hB; omega)), g_upN (by first | decide | omega | (unfold hB; omega))]) ?_
    refine j_bipushN (k := 68) d_M_readDyke_28 (by decide) ?_
    refine j_icmp_eqN (tgt := 35) d_M_readDyke_30 (by decide) (by omega) (by omega) (fun h_30 => ?_) (fun h_30 => ?_)
    ·
      refine j_aload_n (i := 0) d_M_readDyke_35 rfl lg0 ?_
      refine j_iconstN (k := 1) d_M_readDyke_36 (by decide) ?_
      refine pf_M_65 d_M_readDyke_37 ?_
      exact lp_M_readDyke l V S hT _ (g_up (g_up (g_up (g_up V 201 3 0) 201 8 0) 201 9 0) 201 3 1) (fun _ => 0) 50 1 0 0 (g_rw_p g_rw_0) (if_pos ⟨by omega, h_30⟩) (by decide) (by decide) (by omega) (by omega) (Nat.lt_succ_self _)
    ·
      have hF : q_fault (V 201 2) (V 202) = (some 0, 0, 0, fun _ => 0) := if_neg (fun q => by first | exact h_30 q.2 | omega)
      refine j_iconstN (k := 0) d_M_readDyke_33 (by decide) ?_
      refine j_iret d_M_readDyke_34 ⟨rfl, by rw [hF]; rfl, 0, 0, 0, fun _ => 0, g_rw_0, fun h => by rw [hF] at h; cases h⟩
set_option maxRecDepth 4000 in
theorem c_M_fault {G : g_G} (l : Launch) (V : g_V) (S : g_L) (h0 : V 201 0 = 0) (hT : M_T V) : g_C G l y_M_fault b_M_fault 1 (some .int) 6 [.ref (g_a G (201))] V S (fun r V' S' => S' = S ∧ r = some (.int (q_an (q_fault (V 201 2) (V 202)).1)) ∧ ∃ p f d rf, g_rw V V' p f d rf ∧ ((q_fault (V 201 2) (V 202)).1 = none → (q_fault (V 201 2) (V 202)).2 = (f, d, rf) ∧ f ≤ 6 ∧ d < 64)) := by
  refine g_C.of (lv := [some (.ref (g_a G (201)))]) (by decide +kernel) rfl rfl rfl (Nat.le_of_ble_eq_true rfl) ?_
  refine j_aload_n (i := 0) d_M_fault_0 rfl lg0 ?_
  refine j_iconstN (k := 0) d_M_fault_1 (by decide) ?_
  refine pf_M_47 d_M_fault_2 ?_
  rw [g_up_id h0]
  refine j_aload_n (i := 0) d_M_fault_5 rfl lg0 ?_
  refine cl_M_94 (c_M_readDyke l V S hT) d_M_fault_6 rfl rfl (g_ftM (by decide)) (Nat.le_of_ble_eq_true rfl) ?_
  rintro _ W1 S1 ⟨hS1, rfl, hq⟩
  rw [hS1]
  exact j_iret d_M_fault_9 ⟨rfl, rfl, hq⟩
