/-! The class: shares, payings, who is wet. -/
def D_cl (V : g_V) (k : Nat) : Nat := q_pick (V 0 1) (V (hB 0 + 2)) k
def D_bl (V : g_V) (x k : Nat) : Nat := D_lw V (D_best V x (D_cl V k))
def g_bs (V : g_V) (x i : Nat) : g_V := g_row (g_rs V x (1 <<< V 0 1)) 13 (fun k => if k < i then D_bl V x k else V 13 k)
theorem g_bs_N {V : g_V} {x i c : Nat} (h1 : c ≠ 11) (h2 : c ≠ 12) (h3 : c ≠ 13) : g_bs V x i c = V c := by unfold g_bs; rw [g_rowN h3, g_rs_N h1 h2]
theorem g_bs_11 {V : g_V} {x i k : Nat} (h : k < 1 <<< V 0 1) : g_bs V x i 11 k = D_lw V k := by unfold g_bs; rw [g_rowN (by decide), g_rs_11 h]
theorem g_bs_12 {V : g_V} {x i k : Nat} (h : k < 1 <<< V 0 1) : g_bs V x i 12 k = D_cf V x k := by unfold g_bs; rw [g_rowN (by decide), g_rs_12 h]
theorem g_bs_13 {V : g_V} {x i k : Nat} (h : k < i) : g_bs V x i 13 k = D_bl V x k := by unfold g_bs; rw [g_rowS]; exact if_pos h
theorem g_bs_0 {V : g_V} {x : Nat} : g_bs V x 0 = g_rs V x (1 <<< V 0 1) := by
  funext c k
  unfold g_bs
  by_cases h : c = 13
  · subst h
    rw [g_rowS, g_rs_N (by decide) (by decide)]
    simp
  · rw [g_rowN h]
theorem g_bs_step {V : g_V} {x i : Nat} : g_up (g_bs V x i) 13 i (D_bl V x i) = g_bs V x (i + 1) := by
  funext c k
  unfold g_up g_bs g_row
  by_cases h : c = 13
  · subst h
    by_cases hk : k = i
    · subst hk; simp
    · by_cases hl : k < i
      · simp [hk, hl, show k < i + 1 by omega]
      · simp [hk, hl, show ¬ k < i + 1 by omega]
  · simp [h]
theorem q_pick_or {n b k : Nat} {w : Nat → Nat} : q_pick n w k ≤ q_pick n w (k ||| b) := by
  unfold q_pick
  induction n with
  | zero => exact Nat.le_refl _
  | succ n ih =>
    show q_sum n _ + (if _ then _ else _) ≤ q_sum n _ + (if _ then _ else _)
    refine Nat.add_le_add ih ?_
    by_cases h : k.testBit n = true
    · rw [if_pos h, if_pos (by rw [Nat.testBit_or, h]; rfl)]
      exact Nat.le_refl _
    · rw [if_neg h]
      exact Nat.zero_le _
theorem D_bl_mono {V : g_V} (hn : V 0 1 ≤ 6) {x k b : Nat} : D_bl V x (k ||| b) ≤ D_bl V x k := D_best_mono hn q_pick_or
theorem D_bl_le {V : g_V} (hn : V 0 1 ≤ 6) (hK : g_K V) (x k : Nat) : D_bl V x k ≤ 54 := D_lw_le hn hK _
/-- how many farms came ahead, of n -/
theorem q_bc_sub {n f k : Nat} (hn : n ≤ 6) (hf : f < n) (hk : k < 1 <<< n) (h : ¬ k.testBit f = true) : q_bc k ≤ n - 1 := by
  have H : ∀ n, n ≤ 6 → ∀ f, f < n → ∀ k, k < 1 <<< n → ¬ k.testBit f = true → q_bc k ≤ n - 1 := by decide +kernel
  exact H n hn f hf k hk h
def D_shf (V : g_V) (f x k : Nat) : Nat := if k.testBit f = true then 0 else g_ord (q_bc k) * g_ord (V 0 1 - 1 - q_bc k) * (D_bl V x k - D_bl V x (k ||| 1 <<< f))
theorem g_ord_pos : ∀ a, a < 7 → 0 < g_ord a ∧ g_ord a ≤ 720 := by decide +kernel
theorem g_ord_le6 : ∀ n, n ≤ 6 → ∀ a, a < n → g_ord a * g_ord (n - 1 - a) ≤ 120 := by decide +kernel
theorem D_shf_le {V : g_V} (hn : V 0 1 ≤ 6) (hK : g_K V) {f x k : Nat} (hf : f < V 0 1) (hk : k < 1 <<< V 0 1) : D_shf V f x k ≤ 6480 := by
  unfold D_shf
  split
  · exact Nat.zero_le _
  · rename_i h
    have h1 := q_bc_sub hn hf hk h
    have h2 := g_ord_le6 (V 0 1) hn (q_bc k) (by omega)
    have h3 := D_bl_le hn hK x k
    have h4 : D_bl V x k - D_bl V x (k ||| 1 <<< f) ≤ 54 := by omega
    exact Nat.mul_le_mul h2 h4
theorem D_shf_0 {V : g_V} {f x k : Nat} (h : k.testBit f = true) : D_shf V f x k = 0 := by unfold D_shf; rw [if_pos h]
theorem D_shf_1 {V : g_V} {f x k : Nat} (h : ¬ k.testBit f = true) : D_shf V f x k = g_ord (q_bc k) * g_ord (V 0 1 - 1 - q_bc k) * (D_bl V x k - D_bl V x (k ||| 1 <<< f)) := by unfold D_shf; rw [if_neg h]
theorem q_sum_s (n : Nat) (f : Nat → Nat) : q_sum (n + 1) f = q_sum n f + f n := rfl
/-- SHARE, above and below, in least terms -/
def D_sh (V : g_V) (f x : Nat) : Nat := q_sum (1 <<< V 0 1) (D_shf V f x)
theorem q_or_bit_lt {n f k : Nat} (hf : f < n) (hk : k < 1 <<< n) : k ||| 1 <<< f < 1 <<< n := by
  rw [Nat.one_shiftLeft n] at hk ⊢
  exact Nat.or_lt_two_pow hk (q_bit_lt hf)
set_option maxRecDepth 4000 in
theorem lp_D_share2 {G : g_G} (l : Launch) (V : g_V) (S : g_L) (hO : g_OK V) (f x u : Nat) (hf : f < V 0 1) (hx20 : x ≤ 20) (hu : u < 2) : ∀ (n : Nat) (i s : Nat), (i ≤ 1 <<< V 0 1) → (s = q_sum i (D_shf V f x)) → (s ≤ i * 6480) → 1 <<< V 0 1 - i < n → JW G (g_M G l 4 (some .int) (fun r V' S' => S' = S ∧ r = some (.int (nI ((if u = 0 then g_ord (V 0 1) else D_sh V f x) / Nat.gcd (D_sh V f x) (g_ord (V 0 1))))) ∧ ∀ k, k ≠ 11 → k ≠ 12 → k ≠ 13 → V' k = V k)) b_D_share R_D 71 [some (.ref (g_a G (0))), some (.int (nI (f))), some (.int (nI (x))), some (.int (nI (u))), some (.int (nI (s))), some (.int (nI (i))), none, none] [] (g_bs V x (1 <<< V 0 1)) S := by
  intro n
  induction n with
  | zero => intro i s hi hs hsb hm; exact absurd hm (Nat.not_lt_zero _)
  | succ n ih =>
    intro i s hi hs hsb hm
    have hn := hO.1.1
    have hK := hO.1.2.1
    have hT := hO.1.2.2
    have hH := (hO.2.2 0 (by decide)).1
    have hW := (hO.2.2 0 (by decide)).2.1
    have hsp := (hO.2.2 0 (by decide)).2.2.1
    have hdm := (hO.2.2 0 (by decide)).2.2.2.1
    have htd := (hO.2.2 0 (by decide)).2.2.2.2
    have hF := hO.2.1.1
    have hA := hO.2.1.2.1
    have hkp := hO.2.1.2.2
    have hE := g_E64 hn
    have ve0 : (g_bs V x (1 <<< V 0 1)) 0 = V 0 := g_bs_N (by decide) (by decide) (by decide)
    have ve1 : (g_bs V x (1 <<< V 0 1)) 0 1 = V 0 1 := by rw [ve0]
    have ven : (g_bs V x (1 <<< V 0 1)) 0 1 ≤ 6 := by rw [ve1]; exact hn
    have ve3 : (g_bs V x (1 <<< V 0 1)) 3 = V 3 := g_bs_N (by decide) (by decide) (by decide)
    have ve4 : (g_bs V x (1 <<< V 0 1)) 4 = V 4 := g_bs_N (by decide) (by decide) (by decide)
    have ve5 : (g_bs V x (1 <<< V 0 1)) 5 = V 5 := g_bs_N (by decide) (by decide) (by decide)
    have veh : (g_bs V x (1 <<< V 0 1)) (hB 0 + 1) = V (hB 0 + 1) := g_bs_N (by decide) (by decide) (by decide)
    have vec : (g_bs V x (1 <<< V 0 1)) (hB 0 + 2) = V (hB 0 + 2) := g_bs_N (by decide) (by decide) (by decide)
    have vee : (g_bs V x (1 <<< V 0 1)) (hB 0) = V (hB 0) := g_bs_N (by decide) (by decide) (by decide)
    have ves : D_str (g_bs V x (1 <<< V 0 1)) = D_str V := D_str_eq ve3 ve5 veh
    have ved : (g_bs V x (1 <<< V 0 1)) (hB 0) 5 = V (hB 0) 5 := by rw [vee]
    have veD : (g_bs V x (1 <<< V 0 1)) (hB 0) 5 < 64 := by rw [ved]; exact hdm
    have veK : g_K (g_bs V x (1 <<< V 0 1)) := by unfold g_K; rw [ve3, ve4, ve5]; exact hK
    have veH : g_H (g_bs V x (1 <<< V 0 1)) (hB 0 + 1) := by unfold g_H; rw [veh]; exact hH
    have hsb2 : s < 2 ^ 22 := by have : i * 6480 ≤ 64 * 6480 := Nat.mul_le_mul_right _ (by omega); omega
    refine j_iload d_D_share_71 lg5 ?_
    refine j_aload_n (i := 0) d_D_share_73 rfl lg0 ?_
    refine cl_D_107 (c_D_everyFarm l (g_bs V x (1 <<< V 0 1)) S ven) d_D_share_74 rfl rfl (g_ftM (by decide)) (Nat.le_of_ble_eq_true rfl) (g_pu ?_)
    rw [ve1]
    refine j_icmp_gtN (tgt := 152) d_D_share_77 (by decide) (by omega) (by omega) (fun h_77 => ?_) (fun h_77 => ?_)
    ·
      refine j_iload d_D_share_152 lg4 ?_
      refine j_getsO d_D_share_154 gs_D_192 ?_
      refine j_aload_n (i := 0) d_D_share_157 rfl lg0 ?_
      refine gf_D_69 d_D_share_158 ?_
      rw [ve1]
      refine j_tO d_D_share_161 (by omega) ?_
      refine j_iload_n (i := 3) d_D_share_162 rfl lg3 ?_
      have hgo := g_ord_pos (V 0 1) (by omega)
      have hsE : s = D_sh V f x := by rw [hs, show i = 1 <<< V 0 1 by omega]; rfl
      have hmu : s * g_ord (V 0 1) < 2 ^ 33 := by have h1 : s * g_ord (V 0 1) ≤ s * 720 := Nat.mul_le_mul_left s hgo.2; omega
      refine cl_D_195 (c_D_inLeastTerms l (g_bs V x (1 <<< V 0 1)) S s (g_ord (V 0 1)) (by omega) hgo.1 (by omega) hmu u hu) d_D_share_163 rfl rfl (g_ftM (by decide)) (Nat.le_of_ble_eq_true rfl) (g_pu ?_)
      refine j_iret d_D_share_166 ⟨rfl, by rw [hsE], fun k h1 h2 h3 => g_bs_N h1 h2 h3⟩
    ·
      refine j_iload d_D_share_80 lg5 ?_
      refine j_iload_n (i := 1) d_D_share_82 rfl lg1 ?_
      refine cl_D_150 (c_D_has l (g_bs V x (1 <<< V 0 1)) S (i) (f) (by omega) (by omega)) d_D_share_83 rfl rfl (g_ftM (by decide)) (Nat.le_of_ble_eq_true rfl) (g_pu ?_)
      refine j_if_neB (tgt := 146) d_D_share_86 (by decide) (fun h_86 => ?_) (fun h_86 => ?_)
      ·
        refine j_iincN (k := 1) d_D_share_146 lg5 (by decide) ls5i ?_
        refine j_goto (tgt := 71) d_D_share_149 (by decide) ?_
        exact ih (i + 1) _ (by omega) (by have h0 := D_shf_0 (V := V) (x := x) h_86; have h1 := q_sum_s i (D_shf V f x); omega) (Nat.le_trans hsb (Nat.mul_le_mul_right _ (Nat.le_succ i))) (by omega)
      ·
        refine j_iload d_D_share_89 lg5 ?_
        refine cl_D_184 (c_I_bitCount l (g_bs V x (1 <<< V 0 1)) S (i) (by omega)) d_D_share_91 rfl rfl (g_ftM (by decide)) (Nat.le_of_ble_eq_true rfl) (g_pu ?_)
        refine j_istore d_D_share_94 ls6i ?_
        have hbc := q_bc_sub hn hf (k := i) (by omega) h_86
        refine j_getsO d_D_share_96 gs_D_192 ?_
        refine j_iload d_D_share_99 lg6 ?_
        refine j_tO d_D_share_101 (by omega) ?_
        refine j_getsO d_D_share_102 gs_D_192 ?_
        refine j_aload_n (i := 0) d_D_share_105 rfl lg0 ?_
        refine gf_D_69 d_D_share_106 ?_
        rw [ve1]
        refine j_iconstN (k := 1) d_D_share_109 (by decide) ?_
        refine j_isubN d_D_share_110 (by omega) ?_
        refine j_iload d_D_share_111 lg6 ?_
        refine j_isubN d_D_share_113 (by omega) ?_
        refine j_tO d_D_share_114 (by omega) ?_
        refine j_imulN d_D_share_115 ?_
        refine j_istore d_D_share_116 ls7i ?_
        refine j_iload d_D_share_118 lg4 ?_
        refine j_iload d_D_share_120 lg7 ?_
        refine j_aload_n (i := 0) d_D_share_122 rfl lg0 ?_
        refine gf_D_55 d_D_share_123 ?_
        refine j_iload d_D_share_126 lg5 ?_
        refine j_iald d_D_share_128 gI_13 (by omega) ?_
        rw [g_bs_13 (by omega)]
        refine j_aload_n (i := 0) d_D_share_129 rfl lg0 ?_
        refine gf_D_55 d_D_share_130 ?_
        refine j_iload d_D_share_133 lg5 ?_
        refine j_iload_n (i := 1) d_D_share_135 rfl lg1 ?_
        refine cl_D_98 (c_D_bit l (g_bs V x (1 <<< V 0 1)) S (f) (by omega)) d_D_share_136 rfl rfl (g_ftM (by decide)) (Nat.le_of_ble_eq_true rfl) (g_pu ?_)
        refine j_iorN d_D_share_139 ?_
        have hio := q_or_bit_lt hf (show i < 1 <<< V 0 1 by omega)
        refine j_iald d_D_share_140 gI_13 (by omega) ?_
        rw [g_bs_13 (q_or_bit_lt hf (by omega))]
        refine j_isubN d_D_share_141 (D_bl_mono hn) ?_
        refine j_imulN d_D_share_142 ?_
        refine j_iaddN d_D_share_143 ?_
        have hterm : g_ord (q_bc i) * g_ord (V 0 1 - 1 - q_bc i) * (D_bl V x i - D_bl V x (i ||| 1 <<< f)) = D_shf V f x i := (D_shf_1 h_86).symm
        refine j_istore d_D_share_144 ls4i ?_
        refine j_iincN (k := 1) d_D_share_146 lg5 (by decide) ls5i ?_
        refine j_goto (tgt := 71) d_D_share_149 (by decide) ?_
        exact j_fg 6 (j_fg 7 (ih (i + 1) _ (by omega) (by rw [hs]; show _ = q_sum i _ + D_shf V f x i; rw [hterm]) (by rw [hterm]; have := D_shf_le hn hK hf (x := x) (k := i) (by omega); omega) (by omega)))
set_option maxRecDepth 4000 in
theorem lp_D_share1 {G : g_G} (l : Launch) (V : g_V) (S : g_L) (hO : g_OK V) (f x u : Nat) (hf : f < V 0 1) (hx20 : x ≤ 20) (hu : u < 2) : ∀ (n : Nat) (i : Nat), (i ≤ 1 <<< V 0 1) → 1 <<< V 0 1 - i < n → JW G (g_M G l 4 (some .int) (fun r V' S' => S' = S ∧ r = some (.int (nI ((if u = 0 then g_ord (V 0 1) else D_sh V f x) / Nat.gcd (D_sh V f x) (g_ord (V 0 1))))) ∧ ∀ k, k ≠ 11 → k ≠ 12 → k ≠ 13 → V' k = V k)) b_D_share R_D 28 [some (.ref (g_a G (0))), some (.int (nI (f))), some (.int (nI (x))), some (.int (nI (u))), some (.int (nI (i))), none, none, none] [] (g_bs V x i) S := by
  intro n
  induction n with
  | zero => intro i hi hm; exact absurd hm (Nat.not_lt_zero _)
  | succ n ih =>
    intro i hi hm
    have hn := hO.1.1
    have hK := hO.1.2.1
    have hT := hO.1.2.2
    have hH := (hO.2.2 0 (by decide)).1
    have hW := (hO.2.2 0 (by decide)).2.1
    have hsp := (hO.2.2 0 (by decide)).2.2.1
    have hdm := (hO.2.2 0 (by decide)).2.2.2.1
    have htd := (hO.2.2 0 (by decide)).2.2.2.2
    have hF := hO.2.1.1
    have hA := hO.2.1.2.1
    have hkp := hO.2.1.2.2
    have hE := g_E64 hn
    have vs0 : (g_bs V x i) 0 = V 0 := g_bs_N (by decide) (by decide) (by decide)
    have vs1 : (g_bs V x i) 0 1 = V 0 1 := by rw [vs0]
    have vsn : (g_bs V x i) 0 1 ≤ 6 := by rw [vs1]; exact hn
    have vs3 : (g_bs V x i) 3 = V 3 := g_bs_N (by decide) (by decide) (by decide)
    have vs4 : (g_bs V x i) 4 = V 4 := g_bs_N (by decide) (by decide) (by decide)
    have vs5 : (g_bs V x i) 5 = V 5 := g_bs_N (by decide) (by decide) (by decide)
    have vsh : (g_bs V x i) (hB 0 + 1) = V (hB 0 + 1) := g_bs_N (by decide) (by decide) (by decide)
    have vsc : (g_bs V x i) (hB 0 + 2) = V (hB 0 + 2) := g_bs_N (by decide) (by decide) (by decide)
    have vse : (g_bs V x i) (hB 0) = V (hB 0) := g_bs_N (by decide) (by decide) (by decide)
    have vss : D_str (g_bs V x i) = D_str V := D_str_eq vs3 vs5 vsh
    have vsd : (g_bs V x i) (hB 0) 5 = V (hB 0) 5 := by rw [vse]
    have vsD : (g_bs V x i) (hB 0) 5 < 64 := by rw [vsd]; exact hdm
    have vsK : g_K (g_bs V x i) := by unfold g_K; rw [vs3, vs4, vs5]; exact hK
    have vsH : g_H (g_bs V x i) (hB 0 + 1) := by unfold g_H; rw [vsh]; exact hH
    have vsb : ∀ k9, k9 < 1 <<< V 0 1 → (g_bs V x i) 11 k9 = D_lw V k9 ∧ (g_bs V x i) 12 k9 = D_cf V x k9 := fun k9 hi => ⟨g_bs_11 hi, g_bs_12 hi⟩
    have vs11 : ∀ k9, k9 < 1 <<< (g_bs V x i) 0 1 → (g_bs V x i) 11 k9 < 2 ^ 31 := fun k9 hi => by
      rw [vs1] at hi; rw [(vsb k9 hi).1]; have := D_lw_le hn hK k9; omega
    have vs12 : ∀ k9, k9 < 1 <<< (g_bs V x i) 0 1 → (g_bs V x i) 12 k9 < 2 ^ 31 := fun k9 hi => by
      rw [vs1] at hi; rw [(vsb k9 hi).2]; have := D_cf_le hn hx20 k9 (x := x); omega
    refine j_iload d_D_share_28 lg4 ?_
    refine j_aload_n (i := 0) d_D_share_30 rfl lg0 ?_
    refine cl_D_107 (c_D_everyFarm l (g_bs V x i) S vsn) d_D_share_31 rfl rfl (g_ftM (by decide)) (Nat.le_of_ble_eq_true rfl) (g_pu ?_)
    rw [vs1]
    refine j_icmp_gtN (tgt := 65) d_D_share_34 (by decide) (by omega) (by omega) (fun h_34 => ?_) (fun h_34 => ?_)
    ·
      refine j_iconstN (k := 0) d_D_share_65 (by decide) ?_
      refine j_istore d_D_share_66 ls4i ?_
      refine j_iconstN (k := 0) d_D_share_68 (by decide) ?_
      refine j_istore d_D_share_69 ls5i ?_
      rw [show i = 1 <<< V 0 1 by omega]
      exact lp_D_share2 l V S hO f x u hf hx20 hu _ 0 0 (by omega) rfl (by omega) (Nat.lt_succ_self _)
    ·
      refine j_aload_n (i := 0) d_D_share_37 rfl lg0 ?_
      refine gf_D_55 d_D_share_38 ?_
      refine j_iload d_D_share_41 lg4 ?_
      refine j_aload_n (i := 0) d_D_share_43 rfl lg0 ?_
      refine gf_D_49 d_D_share_44 ?_
      refine j_aload_n (i := 0) d_D_share_47 rfl lg0 ?_
      refine j_aload_n (i := 0) d_D_share_48 rfl lg0 ?_
      refine j_iload d_D_share_49 lg4 ?_
      refine cl_D_110 (c_D_clayOf l (g_bs V x i) S vsn (fun i hi => by rw [vsc]; have := hW i hi; omega) (i) (by omega)) d_D_share_51 rfl rfl (g_ftM (by decide)) (Nat.le_of_ble_eq_true rfl) (g_pu ?_)
      rw [vs1, vsc]
      have hcl : q_pick (V 0 1) (V (hB 0 + 2)) i ≤ V 0 1 * 900 := q_pick_le hn hW
      have hcl2 : V 0 1 * 900 ≤ 6 * 900 := Nat.mul_le_mul_right _ hn
      refine cl_D_170 (c_D_bestSet l (g_bs V x i) S vsn (q_pick (V 0 1) (V (hB 0 + 2)) (i)) (by omega) vs11 vs12) d_D_share_54 rfl rfl (g_ftM (by decide)) (Nat.le_of_ble_eq_true rfl) (g_pu ?_)
      rw [D_best_of vs1 vsb]
      have hB64 := D_best_lt hn (x := x) (c := q_pick (V 0 1) (V (hB 0 + 2)) i)
      refine j_iald d_D_share_57 gI_11 (by omega) ?_
      rw [g_bs_11 hB64]
      refine j_iast d_D_share_58 gI_13 (by omega) ?_
      refine j_iincN (k := 1) d_D_share_59 lg4 (by decide) ls4i ?_
      refine j_goto (tgt := 28) d_D_share_62 (by decide) ?_
      rw [show D_lw V (D_best V x (q_pick (V 0 1) (V (hB 0 + 2)) i)) = D_bl V x i from rfl, g_bs_step]
      exact ih (i + 1) (by omega) (by omega)
set_option maxRecDepth 4000 in
theorem c_D_share {G : g_G} (l : Launch) (V : g_V) (S : g_L) (hO : g_OK V) (f0 x0 : Int32) (u : Nat) (hu : u < 2) : g_C G l y_D_share b_D_share 8 (some .int) 4 [.ref (g_a G (0)), .int (f0), .int (x0), .int (nI (u))] V S (fun r V' S' => S' = S ∧ r = some (.int (if q_in f0 (V 0 1) then (if q_in x0 21 then nI ((if u = 0 then g_ord (V 0 1) else D_sh V (q_n f0) (q_n x0)) / Nat.gcd (D_sh V (q_n f0) (q_n x0)) (g_ord (V 0 1))) else -2) else -1)) ∧ ∀ k, k ≠ 11 → k ≠ 12 → k ≠ 13 → V' k = V k) := by
  refine g_C.of (lv := [some (.ref (g_a G (0))), some (.int (f0)), some (.int (x0)), some (.int (nI (u))), none, none, none, none]) (by decide +kernel) rfl rfl rfl (Nat.le_of_ble_eq_true rfl) ?_
  have hn := hO.1.1
  have hK := hO.1.2.1
  have hT := hO.1.2.2
  have hH := (hO.2.2 0 (by decide)).1
  have hW := (hO.2.2 0 (by decide)).2.1
  have hsp := (hO.2.2 0 (by decide)).2.2.1
  have hdm := (hO.2.2 0 (by decide)).2.2.2.1
  have htd := (hO.2.2 0 (by decide)).2.2.2.2
  have hF := hO.2.1.1
  have hA := hO.2.1.2.1
  have hkp := hO.2.1.2.2
  refine j_aload_n (i := 0) d_D_share_0 rfl lg0 ?_
  refine j_iload_n (i := 1) d_D_share_1 rfl lg1 ?_
  refine cl_D_113 (c_D_isFarm l V S (by omega) (f0)) d_D_share_2 rfl rfl (g_ftM (by decide)) (Nat.le_of_ble_eq_true rfl) (g_pu ?_)
  refine j_if_neB (tgt := 10) d_D_share_5 (by decide) (fun h_5 => ?_) (fun h_5 => ?_)
  ·
    refine j_iload_n (i := 2) d_D_share_10 rfl lg2 ?_
    refine cl_D_134 (c_D_isStorm l V S (x0)) d_D_share_11 rfl rfl (g_ftM (by decide)) (Nat.le_of_ble_eq_true rfl) (g_pu ?_)
    refine j_if_neB (tgt := 20) d_D_share_14 (by decide) (fun h_14 => ?_) (fun h_14 => ?_)
    ·
      obtain ⟨f, hf, rfl⟩ := q_in_of h_5 (by omega)
      obtain ⟨x, hx, rfl⟩ := q_in_of h_14 (by decide)
      have hx20 : x ≤ 20 := by omega
      rw [if_pos h_5, if_pos h_14, q_n_nI (by omega), q_n_nI (by omega)]
      refine j_aload_n (i := 0) d_D_share_20 rfl lg0 ?_
      refine j_iload_n (i := 2) d_D_share_21 rfl lg2 ?_
      refine cl_D_167 (c_D_reckonSets l V S hO (x) (by omega)) d_D_share_22 rfl rfl (g_ftM (by decide)) (Nat.le_of_ble_eq_true rfl) (g_pw ?_)
      refine j_iconstN (k := 0) d_D_share_25 (by decide) ?_
      refine j_istore d_D_share_26 ls4i ?_
      have h := lp_D_share1 (G := G) l V S hO f x u hf hx20 hu _ 0 (Nat.zero_le _) (Nat.lt_succ_self _)
      rw [g_bs_0] at h
      exact h
    ·
      refine j_bipush (v := -2) d_D_share_17 (by decide) ?_
      refine j_iret d_D_share_19 ⟨rfl, by rw [if_pos h_5, if_neg h_14], fun k _ _ _ => rfl⟩
  ·
    refine j_iconst (v := -1) d_D_share_8 (by decide) ?_
    refine j_iret d_D_share_9 ⟨rfl, by rw [if_neg h_5], fun k _ _ _ => rfl⟩
