/-! The reference: shares. -/
theorem g_cv_eq {V W : g_V} (h4 : W 201 4 = V 201 4) (h14 : W 201 14 = V 201 14) (h2 : W 201 2 = V 201 2) (h202 : W 202 = V 202) (h203 : W 203 = V 203) (h204 : W 204 = V 204) (h205 : W 205 = V 205) (h207 : W 207 = V 207) : g_cv W = g_cv V := by
  funext c k
  unfold g_cv
  split <;> simp only [h4, h14, h2, h202, h203, h204, h205, h207]
/-- W is V but for the table of values and the placing found -/
def g_sa (V W : g_V) : Prop := (∀ c, c ≠ 201 → c ≠ 212 → W c = V c) ∧ ∀ k, k ≠ 18 → k ≠ 19 → W 201 k = V 201 k
theorem g_sa_0 {V : g_V} : g_sa V V := ⟨fun _ _ _ => rfl, fun _ _ _ => rfl⟩
theorem g_sa_cv {V W : g_V} (h : g_sa V W) : g_cv W = g_cv V := g_cv_eq (h.2 4 (by decide) (by decide)) (h.2 14 (by decide) (by decide)) (h.2 2 (by decide) (by decide)) (h.1 202 (by decide) (by decide)) (h.1 203 (by decide) (by decide)) (h.1 204 (by decide) (by decide)) (h.1 205 (by decide) (by decide)) (h.1 207 (by decide) (by decide))
theorem g_sa_up {V W : g_V} {a b i v : Nat} (h : g_sa V W) : g_sa V (g_up (g_up (g_up W 201 18 a) 201 19 b) 212 i v) :=
  ⟨fun c h1 h2 => by rw [g_up_ne h2, g_up_ne h1, g_up_ne h1]; exact h.1 c h1 h2, fun k h1 h2 => by rw [g_upN (by decide), g_upK h2, g_upK h1]; exact h.2 k h1 h2⟩
set_option maxRecDepth 4000 in
theorem lp_M_share2 {G : g_G} (l : Launch) (V : g_V) (S : g_L) (hO : M_OK V) (f x u : Nat) (hf : f < V 201 4) (hx20 : x ≤ 20) (hu : u < 2) (W : g_V) (hS : g_sa V W) (hT : ∀ j, j < 1 <<< V 201 4 → W 212 j = D_bl (g_cv V) x j) : ∀ (n : Nat) (i s : Nat), (i ≤ 1 <<< V 201 4) → (s = q_sum i (D_shf (g_cv V) f x)) → (s ≤ i * 6480) → 1 <<< V 201 4 - i < n → JW G (g_M G l 4 (some .int) (fun r V' S' => S' = S ∧ r = some (.int (nI ((if u = 0 then g_ord (V 201 4) else D_sh (g_cv V) f x) / Nat.gcd (D_sh (g_cv V) f x) (g_ord (V 201 4))))) ∧ g_sa V V')) b_M_share R_M 71 [some (.ref (g_a G (201))), some (.int (nI (f))), some (.int (nI (x))), some (.int (nI (u))), some (.int (nI (s))), some (.int (nI (i))), none] [] W S := by
  intro n
  induction n with
  | zero => intro i s hi hs hsb hm; exact absurd hm (Nat.not_lt_zero _)
  | succ n ih =>
    intro i s hi hs hsb hm
    have h0 := hO.1.1
    have hn := hO.1.2.1
    have hK := hO.1.2.2.1
    have hX := hO.1.2.2.2.1
    have hA := hO.1.2.2.2.2
    have hH := hO.2.1
    have hW := hO.2.2.1
    have hsp := hO.2.2.2.1
    have hd := hO.2.2.2.2.1
    have htd := hO.2.2.2.2.2
    have hE := g_E64 hn
    have s4 : W 201 4 = V 201 4 := hS.2 4 (by decide) (by decide)
    have s3 : W 203 = V 203 := hS.1 203 (by decide) (by decide)
    have s24 : W 204 = V 204 := hS.1 204 (by decide) (by decide)
    have s5 : W 205 = V 205 := hS.1 205 (by decide) (by decide)
    have s7 : W 207 = V 207 := hS.1 207 (by decide) (by decide)
    have scv := g_sa_cv hS
    have hsb2 : s < 2 ^ 22 := by have : i * 6480 ≤ 64 * 6480 := Nat.mul_le_mul_right _ (by omega); omega
    refine j_iload d_M_share_71 lg5 ?_
    refine j_aload_n (i := 0) d_M_share_73 rfl lg0 ?_
    refine cl_M_108 (c_M_everyone l W S (by omega)) d_M_share_74 rfl rfl (g_ftM (by decide)) (Nat.le_of_ble_eq_true rfl) (g_pu ?_)
    rw [s4]
    refine j_icmp_gtN (tgt := 145) d_M_share_77 (by decide) (by omega) (by omega) (fun h_77 => ?_) (fun h_77 => ?_)
    ·
      refine j_iload d_M_share_145 lg4 ?_
      refine j_aload_n (i := 0) d_M_share_147 rfl lg0 ?_
      refine gf_M_51 d_M_share_148 ?_
      rw [s4]
      refine cl_M_182 (c_M_orders l W S (V 201 4) (by omega)) d_M_share_151 rfl rfl (g_ftM (by decide)) (Nat.le_of_ble_eq_true rfl) (g_pu ?_)
      have hgo := g_ord_pos (V 201 4) (by omega)
      have hsE : s = D_sh (g_cv V) f x := by rw [hs, show i = 1 <<< V 201 4 by omega]; rfl
      refine j_iload_n (i := 3) d_M_share_154 rfl lg3 ?_
      refine cl_M_185 (c_M_fraction l W S s (g_ord (V 201 4)) u (by omega) hgo.1 (by omega) hu) d_M_share_155 rfl rfl (g_ftM (by decide)) (Nat.le_of_ble_eq_true rfl) (g_pu ?_)
      refine j_iret d_M_share_158 ⟨rfl, by rw [hsE], hS⟩
    ·
      refine j_iload d_M_share_80 lg5 ?_
      refine j_iload_n (i := 1) d_M_share_82 rfl lg1 ?_
      refine cl_M_78 (c_M_has l W S (i) (f) (by omega) (by omega)) d_M_share_83 rfl rfl (g_ftM (by decide)) (Nat.le_of_ble_eq_true rfl) (g_pu ?_)
      refine j_if_neB (tgt := 139) d_M_share_86 (by decide) (fun h_86 => ?_) (fun h_86 => ?_)
      ·
        refine j_iincN (k := 1) d_M_share_139 lg5 (by decide) ls5i ?_
        refine j_goto (tgt := 71) d_M_share_142 (by decide) ?_
        exact ih (i + 1) _ (by omega) (by have h0 := D_shf_0 (V := g_cv V) (x := x) h_86; have h1 := q_sum_s i (D_shf (g_cv V) f x); omega) (Nat.le_trans hsb (Nat.mul_le_mul_right _ (Nat.le_succ i))) (by omega)
      ·
        refine j_iload d_M_share_89 lg5 ?_
        refine cl_M_176 (c_M_many l W S (i) (by omega)) d_M_share_91 rfl rfl (g_ftM (by decide)) (Nat.le_of_ble_eq_true rfl) (g_pu ?_)
        refine j_istore d_M_share_94 ls6i ?_
        have hbc := q_bc_sub hn hf (k := i) (by omega) h_86
        refine j_iload d_M_share_96 lg4 ?_
        refine j_iload d_M_share_98 lg6 ?_
        refine cl_M_182 (c_M_orders l W S (q_bc (i)) (by omega)) d_M_share_100 rfl rfl (g_ftM (by decide)) (Nat.le_of_ble_eq_true rfl) (g_pu ?_)
        refine j_aload_n (i := 0) d_M_share_103 rfl lg0 ?_
        refine gf_M_51 d_M_share_104 ?_
        rw [s4]
        refine j_iconstN (k := 1) d_M_share_107 (by decide) ?_
        refine j_isubN d_M_share_108 (by omega) ?_
        refine j_iload d_M_share_109 lg6 ?_
        refine j_isubN d_M_share_111 (by omega) ?_
        refine cl_M_182 (c_M_orders l W S (((V 201 4) - 1) - (q_bc (i))) (by omega)) d_M_share_112 rfl rfl (g_ftM (by decide)) (Nat.le_of_ble_eq_true rfl) (g_pu ?_)
        refine j_imulN d_M_share_115 ?_
        refine j_aload_n (i := 0) d_M_share_116 rfl lg0 ?_
        refine gf_M_41 d_M_share_117 ?_
        refine j_iload d_M_share_120 lg5 ?_
        refine j_iald d_M_share_122 gI_212 (by omega) ?_
        rw [hT i (by omega)]
        have hio := q_or_bit_lt hf (show i < 1 <<< V 201 4 by omega)
        refine j_aload_n (i := 0) d_M_share_123 rfl lg0 ?_
        refine gf_M_41 d_M_share_124 ?_
        refine j_iload d_M_share_127 lg5 ?_
        refine j_iconstN (k := 1) d_M_share_129 (by decide) ?_
        refine j_iload_n (i := 1) d_M_share_130 rfl lg1 ?_
        refine j_ishlN d_M_share_131 (by omega) ?_
        refine j_iorN d_M_share_132 ?_
        refine j_iald d_M_share_133 gI_212 (by omega) ?_
        rw [hT _ hio]
        refine j_isubN d_M_share_134 (D_bl_mono (V := g_cv V) hn) ?_
        refine j_imulN d_M_share_135 ?_
        refine j_iaddN d_M_share_136 ?_
        have hterm : g_ord (q_bc i) * g_ord (V 201 4 - 1 - q_bc i) * (D_bl (g_cv V) x i - D_bl (g_cv V) x (i ||| 1 <<< f)) = D_shf (g_cv V) f x i := (D_shf_1 (V := g_cv V) (x := x) h_86).symm
        refine j_istore d_M_share_137 ls4i ?_
        refine j_iincN (k := 1) d_M_share_139 lg5 (by decide) ls5i ?_
        refine j_goto (tgt := 71) d_M_share_142 (by decide) ?_
        exact j_fg 6 (ih (i + 1) _ (by omega) (by rw [hs]; show _ = q_sum i _ + D_shf (g_cv V) f x i; rw [hterm]) (by rw [hterm]; have := D_shf_le (V := g_cv V) hn (cv_K hK) hf (x := x) (k := i) (by show i < 1 <<< V 201 4; omega); omega) (by omega))
set_option maxRecDepth 4000 in
theorem lp_M_share1 {G : g_G} (l : Launch) (V : g_V) (S : g_L) (hO : M_OK V) (f x u : Nat) (hf : f < V 201 4) (hx20 : x ≤ 20) (hu : u < 2) : ∀ (n : Nat) (i : Nat) (W : g_V), (i ≤ 1 <<< V 201 4) → (g_sa V W) → (∀ j, j < i → W 212 j = D_bl (g_cv V) x j) → 1 <<< V 201 4 - i < n → JW G (g_M G l 4 (some .int) (fun r V' S' => S' = S ∧ r = some (.int (nI ((if u = 0 then g_ord (V 201 4) else D_sh (g_cv V) f x) / Nat.gcd (D_sh (g_cv V) f x) (g_ord (V 201 4))))) ∧ g_sa V V')) b_M_share R_M 28 [some (.ref (g_a G (201))), some (.int (nI (f))), some (.int (nI (x))), some (.int (nI (u))), some (.int (nI (i))), none, none] [] W S := by
  intro n
  induction n with
  | zero => intro i W hi hS hT hm; exact absurd hm (Nat.not_lt_zero _)
  | succ n ih =>
    intro i W hi hS hT hm
    have h0 := hO.1.1
    have hn := hO.1.2.1
    have hK := hO.1.2.2.1
    have hX := hO.1.2.2.2.1
    have hA := hO.1.2.2.2.2
    have hH := hO.2.1
    have hW := hO.2.2.1
    have hsp := hO.2.2.2.1
    have hd := hO.2.2.2.2.1
    have htd := hO.2.2.2.2.2
    have hE := g_E64 hn
    have s4 : W 201 4 = V 201 4 := hS.2 4 (by decide) (by decide)
    have s3 : W 203 = V 203 := hS.1 203 (by decide) (by decide)
    have s24 : W 204 = V 204 := hS.1 204 (by decide) (by decide)
    have s5 : W 205 = V 205 := hS.1 205 (by decide) (by decide)
    have s7 : W 207 = V 207 := hS.1 207 (by decide) (by decide)
    have scv := g_sa_cv hS
    refine j_iload d_M_share_28 lg4 ?_
    refine j_aload_n (i := 0) d_M_share_30 rfl lg0 ?_
    refine cl_M_108 (c_M_everyone l W S (by omega)) d_M_share_31 rfl rfl (g_ftM (by decide)) (Nat.le_of_ble_eq_true rfl) (g_pu ?_)
    rw [s4]
    refine j_icmp_gtN (tgt := 65) d_M_share_34 (by decide) (by omega) (by omega) (fun h_34 => ?_) (fun h_34 => ?_)
    ·
      refine j_iconstN (k := 0) d_M_share_65 (by decide) ?_
      refine j_istore d_M_share_66 ls4i ?_
      refine j_iconstN (k := 0) d_M_share_68 (by decide) ?_
      refine j_istore d_M_share_69 ls5i ?_
      obtain rfl : i = 1 <<< V 201 4 := by omega
      exact lp_M_share2 l V S hO f x u hf hx20 hu W hS hT _ 0 0 (by omega) rfl (by omega) (Nat.lt_succ_self _)
    ·
      refine j_aload_n (i := 0) d_M_share_37 rfl lg0 ?_
      refine j_aload_n (i := 0) d_M_share_38 rfl lg0 ?_
      refine j_iload d_M_share_39 lg4 ?_
      refine cl_M_111 (c_M_clayOf l W S (by omega) (fun k hk => by rw [s7]; have := hW k hk; omega) i (by omega)) d_M_share_41 rfl rfl (g_ftM (by decide)) (Nat.le_of_ble_eq_true rfl) (g_pu ?_)
      rw [s4, s7]
      have hcl : q_pick (V 201 4) (fun i => V 207 (6 + i)) i ≤ V 201 4 * 900 := q_pick_le (w := fun i => V 207 (6 + i)) hn hW
      have hcl2 : V 201 4 * 900 ≤ 6 * 900 := Nat.mul_le_mul_right _ hn
      refine j_iload_n (i := 2) d_M_share_44 rfl lg2 ?_
      refine cl_M_145 (c_M_findPlacing l W S (by omega) (by unfold M_K; rw [s3, s24, s5]; exact hK) (by unfold g_H; rw [s7]; exact hH) (by rw [s7]; exact hd) (q_pick (V 201 4) (fun i => V 207 (6 + i)) i) x (by omega) hx20) d_M_share_45 rfl rfl (g_ftM (by decide)) (Nat.le_of_ble_eq_true rfl) (g_pw ?_)
      rw [scv]
      refine j_aload_n (i := 0) d_M_share_48 rfl lg0 ?_
      refine gf_M_41 d_M_share_49 ?_
      refine j_iload d_M_share_52 lg4 ?_
      refine j_aload_n (i := 0) d_M_share_54 rfl lg0 ?_
      refine gf_M_137 d_M_share_55 ?_
      refine j_eqv (b := D_lw (g_cv V) (D_best (g_cv V) x (q_pick (V 201 4) (fun i => V 207 (6 + i)) i))) (by rw [g_upK (by decide), g_upS]) ?_
      refine j_iast d_M_share_58 gI_212 (by omega) ?_
      refine j_iincN (k := 1) d_M_share_59 lg4 (by decide) ls4i ?_
      refine j_goto (tgt := 28) d_M_share_62 (by decide) ?_
      exact ih (i + 1) _ (by omega) (g_sa_up hS) (fun j hj => by
        by_cases e : j = i
        · subst e; rw [g_upS]; rfl
        · rw [g_upK e, g_up_ne (by decide), g_up_ne (by decide)]; exact hT j (by omega)) (by omega)
set_option maxRecDepth 4000 in
theorem c_M_share {G : g_G} (l : Launch) (V : g_V) (S : g_L) (hO : M_OK V) (f0 x0 : Int32) (u : Nat) (hu : u < 2) : g_C G l y_M_share b_M_share 7 (some .int) 4 [.ref (g_a G (201)), .int (f0), .int (x0), .int (nI (u))] V S (fun r V' S' => S' = S ∧ r = some (.int (if q_in f0 (V 201 4) then (if q_in x0 21 then nI ((if u = 0 then g_ord (V 201 4) else D_sh (g_cv V) (q_n f0) (q_n x0)) / Nat.gcd (D_sh (g_cv V) (q_n f0) (q_n x0)) (g_ord (V 201 4))) else -2) else -1)) ∧ g_sa V V') := by
  refine g_C.of (lv := [some (.ref (g_a G (201))), some (.int (f0)), some (.int (x0)), some (.int (nI (u))), none, none, none]) (by decide +kernel) rfl rfl rfl (Nat.le_of_ble_eq_true rfl) ?_
  have h0 := hO.1.1
  have hn := hO.1.2.1
  have hK := hO.1.2.2.1
  have hX := hO.1.2.2.2.1
  have hA := hO.1.2.2.2.2
  have hH := hO.2.1
  have hW := hO.2.2.1
  have hsp := hO.2.2.2.1
  have hd := hO.2.2.2.2.1
  have htd := hO.2.2.2.2.2
  refine j_aload_n (i := 0) d_M_share_0 rfl lg0 ?_
  refine j_iconstN (k := 0) d_M_share_1 (by decide) ?_
  refine pf_M_47 d_M_share_2 ?_
  rw [g_up_id h0]
  refine j_aload_n (i := 0) d_M_share_5 rfl lg0 ?_
  refine j_iload_n (i := 1) d_M_share_6 rfl lg1 ?_
  refine cl_M_115 (c_M_noFarm l V S (by omega) (f0)) d_M_share_7 rfl rfl (g_ftM (by decide)) (Nat.le_of_ble_eq_true rfl) (g_pu ?_)
  refine j_if_eqB (tgt := 15) d_M_share_10 (by decide) (fun h_10 => ?_) (fun h_10 => ?_)
  ·
    refine j_iload_n (i := 2) d_M_share_15 rfl lg2 ?_
    refine cl_M_119 (c_M_noStorm l V S (x0)) d_M_share_16 rfl rfl (g_ftM (by decide)) (Nat.le_of_ble_eq_true rfl) (g_pu ?_)
    refine j_if_eqB (tgt := 25) d_M_share_19 (by decide) (fun h_19 => ?_) (fun h_19 => ?_)
    ·
      have hf0 := Classical.not_not.mp h_10
      have hx0 := Classical.not_not.mp h_19
      obtain ⟨f, hf, rfl⟩ := q_in_of hf0 (by omega)
      obtain ⟨x, hx, rfl⟩ := q_in_of hx0 (by decide)
      have hx20 : x ≤ 20 := by omega
      rw [if_pos hf0, if_pos hx0, q_n_nI (by omega), q_n_nI (by omega)]
      refine j_iconstN (k := 0) d_M_share_25 (by decide) ?_
      refine j_istore d_M_share_26 ls4i ?_
      exact lp_M_share1 l V S hO f x u hf hx20 hu _ 0 V (Nat.zero_le _) g_sa_0 (fun j hj => absurd hj (Nat.not_lt_zero j)) (Nat.lt_succ_self _)
    ·
      refine j_bipush (v := -2) d_M_share_22 (by decide) ?_
      refine j_iret d_M_share_24 ⟨rfl, by rw [if_pos (Classical.not_not.mp h_10), if_neg h_19], g_sa_0⟩
  ·
    refine j_iconst (v := -1) d_M_share_13 (by decide) ?_
    refine j_iret d_M_share_14 ⟨rfl, by rw [if_neg h_10], g_sa_0⟩
