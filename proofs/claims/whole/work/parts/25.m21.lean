/-! The reference: clay, nets, fractions, a storm over a page. -/
theorem g_ile0 {v : Nat} (hv : v < 2 ^ 31) : nI v ≤ 0 ↔ v = 0 := by
  rw [Int32.le_iff_toInt_le, nI_toInt hv, Int32.toInt_zero]; omega
theorem g_subI {x s : Nat} (hx : x < 2 ^ 31) (hs : s < 2 ^ 31) : (nI x - nI s).toInt = (x : Int) - s := by
  rw [Int32.toInt_sub, nI_toInt hx, nI_toInt hs]
  exact Int.bmod_eq_of_le (by omega) (by omega)
theorem g_subp {x s : Nat} (hx : x < 2 ^ 31) (hs : s < 2 ^ 31) (h : ¬ nI x - nI s ≤ 0) : nI x - nI s = nI (x - s) := by
  rw [Int32.le_iff_toInt_le, g_subI hx hs, Int32.toInt_zero] at h
  exact nI_sub (by omega)
theorem g_sub0 {x s : Nat} (hx : x < 2 ^ 31) (hs : s < 2 ^ 31) (h : nI x - nI s ≤ 0) : x - s = 0 := by
  rw [Int32.le_iff_toInt_le, g_subI hx hs, Int32.toInt_zero] at h
  omega
set_option maxRecDepth 4000 in
theorem lp_M_clayFor {G : g_G} (l : Launch) (V : g_V) (S : g_L) (hn : V 201 4 ≤ 6) (hK : M_K V) (hH : g_H V 207) (b x : Nat) (hb : b < 64) (hx : x ≤ 20) : ∀ (n : Nat) (i s : Nat), (i ≤ V 201 4) → (s = q_lack i (M_str V 207) b x) → V 201 4 - i < n → JW G (g_M G l 2 (some .int) (fun r V' S' => r = some (.int (nI (q_lack (V 201 4) (M_str V 207) b x))) ∧ V' = V ∧ S' = S)) b_M_clayFor R_M 5 [some (.ref (g_a G (201))), some (.int (nI (b))), some (.int (nI (x))), some (.int (nI (s))), some (.int (nI (i))), none] [] V S := by
  intro n
  induction n with
  | zero => intro i s hi hs hm; exact absurd hm (Nat.not_lt_zero _)
  | succ n ih =>
    intro i s hi hs hm
    refine j_iload d_M_clayFor_5 lg4 ?_
    refine j_aload_n (i := 0) d_M_clayFor_7 rfl lg0 ?_
    refine gf_M_51 d_M_clayFor_8 ?_
    refine j_icmp_geN (tgt := 57) d_M_clayFor_11 (by decide) (by omega) (by omega) (fun h_11 => ?_) (fun h_11 => ?_)
    ·
      refine j_iload_n (i := 3) d_M_clayFor_57 rfl lg3 ?_
      refine j_iret d_M_clayFor_58 ⟨by rw [hs, show i = V 201 4 by omega], rfl, rfl⟩
    ·
      refine j_iload_n (i := 2) d_M_clayFor_14 rfl lg2 ?_
      refine j_aload_n (i := 0) d_M_clayFor_15 rfl lg0 ?_
      refine j_aload_n (i := 0) d_M_clayFor_16 rfl lg0 ?_
      refine gf_M_25 d_M_clayFor_17 ?_
      refine j_iload d_M_clayFor_20 lg4 ?_
      refine cl_M_101 (c_M_strength l V S (207) (i) gI_207 (by omega) hK) d_M_clayFor_22 rfl rfl (g_ftM (by decide)) (Nat.le_of_ble_eq_true rfl) (g_pu ?_)
      have hq := M_str_lt hK hH (i := i) (by omega)
      refine j_isub d_M_clayFor_25 ?_
      refine j_istore d_M_clayFor_26 ls5i ?_
      refine j_iload_n (i := 3) d_M_clayFor_28 rfl lg3 ?_
      refine j_iload_n (i := 1) d_M_clayFor_29 rfl lg1 ?_
      refine j_iload d_M_clayFor_30 lg4 ?_
      refine cl_M_78 (c_M_has l V S (b) (i) (by omega) (by omega)) d_M_clayFor_32 rfl rfl (g_ftM (by decide)) (Nat.le_of_ble_eq_true rfl) (g_pu ?_)
      refine j_if_eqB (tgt := 48) d_M_clayFor_35 (by decide) (fun h_35 => ?_) (fun h_35 => ?_)
      ·
        refine j_iconstN (k := 0) d_M_clayFor_48 (by decide) ?_
        refine j_iaddN d_M_clayFor_49 ?_
        refine j_istore_n d_M_clayFor_50 rfl ls3i ?_
        refine j_iincN (k := 1) d_M_clayFor_51 lg4 (by decide) ls4i ?_
        refine j_goto (tgt := 5) d_M_clayFor_54 (by decide) ?_
        exact j_fg 5 (ih (i + 1) _ (by omega) (by rw [hs]; show _ = q_sum i _ + (if _ then _ else _); rw [if_neg h_35]; rfl) (by omega))
      ·
        refine j_iload d_M_clayFor_38 lg5 ?_
        refine j_if_le (tgt := 48) d_M_clayFor_40 (by decide) (fun h_40 => ?_) (fun h_40 => ?_)
        ·
          refine j_iconstN (k := 0) d_M_clayFor_48 (by decide) ?_
          refine j_iaddN d_M_clayFor_49 ?_
          refine j_istore_n d_M_clayFor_50 rfl ls3i ?_
          refine j_iincN (k := 1) d_M_clayFor_51 lg4 (by decide) ls4i ?_
          refine j_goto (tgt := 5) d_M_clayFor_54 (by decide) ?_
          exact j_fg 5 (ih (i + 1) _ (by omega) (by rw [hs]; show _ = q_sum i _ + (if _ then _ else _); rw [if_pos h_35, g_sub0 (by omega) (by omega) h_40]; rfl) (by omega))
        ·
          have hsp := g_subp (x := x) (s := M_str V 207 i) (by omega) (by omega) h_40
          rw [hsp]
          refine j_iload d_M_clayFor_43 lg5 ?_
          refine j_goto (tgt := 49) d_M_clayFor_45 (by decide) ?_
          refine j_iaddN d_M_clayFor_49 ?_
          refine j_istore_n d_M_clayFor_50 rfl ls3i ?_
          refine j_iincN (k := 1) d_M_clayFor_51 lg4 (by decide) ls4i ?_
          refine j_goto (tgt := 5) d_M_clayFor_54 (by decide) ?_
          exact j_fg 5 (ih (i + 1) _ (by omega) (by rw [hs]; show _ = q_sum i _ + (if _ then _ else _); rw [if_pos h_35]; rfl) (by omega))
set_option maxRecDepth 4000 in
theorem c_M_clayFor {G : g_G} (l : Launch) (V : g_V) (S : g_L) (hn : V 201 4 ≤ 6) (hK : M_K V) (hH : g_H V 207) (b x : Nat) (hb : b < 64) (hx : x ≤ 20) : g_C G l y_M_clayFor b_M_clayFor 6 (some .int) 2 [.ref (g_a G (201)), .int (nI (b)), .int (nI (x))] V S (fun r V' S' => r = some (.int (nI (q_lack (V 201 4) (M_str V 207) b x))) ∧ V' = V ∧ S' = S) := by
  refine g_C.of (lv := [some (.ref (g_a G (201))), some (.int (nI (b))), some (.int (nI (x))), none, none, none]) (by decide +kernel) rfl rfl rfl (Nat.le_of_ble_eq_true rfl) ?_
  refine j_iconstN (k := 0) d_M_clayFor_0 (by decide) ?_
  refine j_istore_n d_M_clayFor_1 rfl ls3i ?_
  refine j_iconstN (k := 0) d_M_clayFor_2 (by decide) ?_
  refine j_istore d_M_clayFor_3 ls4i ?_
  exact lp_M_clayFor l V S hn hK hH b x hb hx _ 0 0 (by omega) rfl (Nat.lt_succ_self _)
def M_ow (V : g_V) (a b : Nat) : Nat := V 207 (21 + 6 * a + b)
def M_z (V : g_V) (f : Nat) : Int32 := q_net (M_ow V) f (V 201 4)
set_option maxRecDepth 4000 in
theorem lp_M_netOf {G : g_G} (l : Launch) (V : g_V) (S : g_L) (hn : V 201 4 ≤ 6) (f : Nat) (hf : f < V 201 4) : ∀ (n : Nat) (i : Nat) (s : Int32), (i ≤ V 201 4) → (s = q_net (M_ow V) f i) → V 201 4 - i < n → JW G (g_M G l 1 (some .int) (fun r V' S' => r = some (.int (M_z V f)) ∧ V' = V ∧ S' = S)) b_M_netOf R_M 4 [some (.ref (g_a G (201))), some (.int (nI (f))), some (.int (s)), some (.int (nI (i)))] [] V S := by
  intro n
  induction n with
  | zero => intro i s hi hs hm; exact absurd hm (Nat.not_lt_zero _)
  | succ n ih =>
    intro i s hi hs hm
    refine j_iload_n (i := 3) d_M_netOf_4 rfl lg3 ?_
    refine j_aload_n (i := 0) d_M_netOf_5 rfl lg0 ?_
    refine gf_M_51 d_M_netOf_6 ?_
    refine j_icmp_geN (tgt := 50) d_M_netOf_9 (by decide) (by omega) (by omega) (fun h_9 => ?_) (fun h_9 => ?_)
    ·
      refine j_iload_n (i := 2) d_M_netOf_50 rfl lg2 ?_
      refine j_iret d_M_netOf_51 ⟨by rw [hs, show i = V 201 4 by omega]; rfl, rfl, rfl⟩
    ·
      refine j_iload_n (i := 2) d_M_netOf_12 rfl lg2 ?_
      refine j_aload_n (i := 0) d_M_netOf_13 rfl lg0 ?_
      refine gf_M_25 d_M_netOf_14 ?_
      refine j_bipushN (k := 21) d_M_netOf_17 (by decide) ?_
      refine j_bipushN (k := 6) d_M_netOf_19 (by decide) ?_
      refine j_iload_n (i := 3) d_M_netOf_21 rfl lg3 ?_
      refine j_imulN d_M_netOf_22 ?_
      refine j_iaddN d_M_netOf_23 ?_
      refine j_iload_n (i := 1) d_M_netOf_24 rfl lg1 ?_
      refine j_iaddN d_M_netOf_25 ?_
      refine j_iald d_M_netOf_26 gI_207 (by omega) ?_
      refine j_aload_n (i := 0) d_M_netOf_27 rfl lg0 ?_
      refine gf_M_25 d_M_netOf_28 ?_
      refine j_bipushN (k := 21) d_M_netOf_31 (by decide) ?_
      refine j_bipushN (k := 6) d_M_netOf_33 (by decide) ?_
      refine j_iload_n (i := 1) d_M_netOf_35 rfl lg1 ?_
      refine j_imulN d_M_netOf_36 ?_
      refine j_iaddN d_M_netOf_37 ?_
      refine j_iload_n (i := 3) d_M_netOf_38 rfl lg3 ?_
      refine j_iaddN d_M_netOf_39 ?_
      refine j_iald d_M_netOf_40 gI_207 (by omega) ?_
      refine j_isub d_M_netOf_41 ?_
      refine j_iadd d_M_netOf_42 ?_
      refine j_istore_n d_M_netOf_43 rfl ls2i ?_
      refine j_iincN (k := 1) d_M_netOf_44 lg3 (by decide) ls3i ?_
      refine j_goto (tgt := 4) d_M_netOf_47 (by decide) ?_
      exact ih (i + 1) _ (by omega) (by rw [hs]; rfl) (by omega)
set_option maxRecDepth 4000 in
theorem c_M_netOf {G : g_G} (l : Launch) (V : g_V) (S : g_L) (hn : V 201 4 ≤ 6) (f : Nat) (hf : f < V 201 4) : g_C G l y_M_netOf b_M_netOf 4 (some .int) 1 [.ref (g_a G (201)), .int (nI (f))] V S (fun r V' S' => r = some (.int (M_z V f)) ∧ V' = V ∧ S' = S) := by
  refine g_C.of (lv := [some (.ref (g_a G (201))), some (.int (nI (f))), none, none]) (by decide +kernel) rfl rfl rfl (Nat.le_of_ble_eq_true rfl) ?_
  refine j_iconstN (k := 0) d_M_netOf_0 (by decide) ?_
  refine j_istore_n d_M_netOf_1 rfl ls2i ?_
  refine j_iconstN (k := 0) d_M_netOf_2 (by decide) ?_
  refine j_istore_n d_M_netOf_3 rfl ls3i ?_
  exact lp_M_netOf l V S hn f hf _ 0 0 (by omega) rfl (Nat.lt_succ_self _)
set_option maxRecDepth 4000 in
theorem lp_M_sumOf {G : g_G} (l : Launch) (V : g_V) (S : g_L) (hn : V 201 4 ≤ 6) (b : Nat) (hb : b < 64) : ∀ (n : Nat) (i : Nat) (s : Int32), (i ≤ V 201 4) → (s = q_sz (M_z V) b i) → V 201 4 - i < n → JW G (g_M G l 2 (some .int) (fun r V' S' => r = some (.int (q_sz (M_z V) b (V 201 4))) ∧ V' = V ∧ S' = S)) b_M_sumOf R_M 4 [some (.ref (g_a G (201))), some (.int (nI (b))), some (.int (s)), some (.int (nI (i)))] [] V S := by
  intro n
  induction n with
  | zero => intro i s hi hs hm; exact absurd hm (Nat.not_lt_zero _)
  | succ n ih =>
    intro i s hi hs hm
    refine j_iload_n (i := 3) d_M_sumOf_4 rfl lg3 ?_
    refine j_aload_n (i := 0) d_M_sumOf_5 rfl lg0 ?_
    refine gf_M_51 d_M_sumOf_6 ?_
    refine j_icmp_geN (tgt := 38) d_M_sumOf_9 (by decide) (by omega) (by omega) (fun h_9 => ?_) (fun h_9 => ?_)
    ·
      refine j_iload_n (i := 2) d_M_sumOf_38 rfl lg2 ?_
      refine j_iret d_M_sumOf_39 ⟨by rw [hs, show i = V 201 4 by omega], rfl, rfl⟩
    ·
      refine j_iload_n (i := 2) d_M_sumOf_12 rfl lg2 ?_
      refine j_iload_n (i := 1) d_M_sumOf_13 rfl lg1 ?_
      refine j_iload_n (i := 3) d_M_sumOf_14 rfl lg3 ?_
      refine cl_M_78 (c_M_has l V S (b) (i) (by omega) (by omega)) d_M_sumOf_15 rfl rfl (g_ftM (by decide)) (Nat.le_of_ble_eq_true rfl) (g_pu ?_)
      refine j_if_eqB (tgt := 29) d_M_sumOf_18 (by decide) (fun h_18 => ?_) (fun h_18 => ?_)
      ·
        refine j_iconstN (k := 0) d_M_sumOf_29 (by decide) ?_
        refine j_iadd d_M_sumOf_30 ?_
        refine j_istore_n d_M_sumOf_31 rfl ls2i ?_
        refine j_iincN (k := 1) d_M_sumOf_32 lg3 (by decide) ls3i ?_
        refine j_goto (tgt := 4) d_M_sumOf_35 (by decide) ?_
        exact ih (i + 1) _ (by omega) (by rw [hs]; show _ = (if _ then _ else _); rw [if_neg h_18, show nI (0 : Nat) = 0 from rfl, Int32.add_zero]) (by omega)
      ·
        refine j_aload_n (i := 0) d_M_sumOf_21 rfl lg0 ?_
        refine j_iload_n (i := 3) d_M_sumOf_22 rfl lg3 ?_
        refine cl_M_170 (c_M_netOf l V S (by omega) (i) (by omega)) d_M_sumOf_23 rfl rfl (g_ftM (by decide)) (Nat.le_of_ble_eq_true rfl) (g_pu ?_)
        refine j_goto (tgt := 30) d_M_sumOf_26 (by decide) ?_
        refine j_iadd d_M_sumOf_30 ?_
        refine j_istore_n d_M_sumOf_31 rfl ls2i ?_
        refine j_iincN (k := 1) d_M_sumOf_32 lg3 (by decide) ls3i ?_
        refine j_goto (tgt := 4) d_M_sumOf_35 (by decide) ?_
        exact ih (i + 1) _ (by omega) (by rw [hs]; show _ = (if _ then _ else _); rw [if_pos h_18]) (by omega)
set_option maxRecDepth 4000 in
theorem c_M_sumOf {G : g_G} (l : Launch) (V : g_V) (S : g_L) (hn : V 201 4 ≤ 6) (b : Nat) (hb : b < 64) : g_C G l y_M_sumOf b_M_sumOf 4 (some .int) 2 [.ref (g_a G (201)), .int (nI (b))] V S (fun r V' S' => r = some (.int (q_sz (M_z V) b (V 201 4))) ∧ V' = V ∧ S' = S) := by
  refine g_C.of (lv := [some (.ref (g_a G (201))), some (.int (nI (b))), none, none]) (by decide +kernel) rfl rfl rfl (Nat.le_of_ble_eq_true rfl) ?_
  refine j_iconstN (k := 0) d_M_sumOf_0 (by decide) ?_
  refine j_istore_n d_M_sumOf_1 rfl ls2i ?_
  refine j_iconstN (k := 0) d_M_sumOf_2 (by decide) ?_
  refine j_istore_n d_M_sumOf_3 rfl ls3i ?_
  exact lp_M_sumOf l V S hn b hb _ 0 0 (by omega) rfl (Nat.lt_succ_self _)
theorem g_ord_mul : ∀ i, i ≤ 6 → 1 ≤ i → g_ord (i - 1) * i = g_ord i := by decide
theorem g_ord_end {i k : Nat} (h1 : 2 ≤ i) (h2 : i ≤ k + 1 ∨ i = 2) (h3 : k < i) : g_ord (i - 1) = g_ord k := by
  rcases h2 with q | q
  · rw [show i - 1 = k by omega]
  · subst q
    rcases (show k = 0 ∨ k = 1 by omega) with q2 | q2
    · subst q2; rfl
    · subst q2; rfl
theorem g_ord_lt : ∀ i, g_ord i < 721 := fun i => by
  have h : ∀ i, i < 7 → g_ord i < 721 := by decide
  by_cases q : i < 7
  · exact h i q
  · have e : g_ord i = 720 := by
      obtain ⟨k, rfl⟩ : ∃ k, i = k + 6 := ⟨i - 6, by omega⟩
      rfl
    omega
set_option maxRecDepth 4000 in
theorem lp_M_orders {G : g_G} (l : Launch) (V : g_V) (S : g_L) (k : Nat) (hk : k ≤ 6) : ∀ (n : Nat) (i v : Nat), (2 ≤ i) → (i ≤ k + 1 ∨ i = 2) → (v = g_ord (i - 1)) → 8 - i < n → JW G (g_M G l 1 (some .int) (fun r V' S' => r = some (.int (nI (g_ord k))) ∧ V' = V ∧ S' = S)) b_M_orders R_M 4 [some (.int (nI (k))), some (.int (nI (v))), some (.int (nI (i)))] [] V S := by
  intro n
  induction n with
  | zero => intro i v hi hi2 hv hm; exact absurd hm (Nat.not_lt_zero _)
  | succ n ih =>
    intro i v hi hi2 hv hm
    refine j_iload_n (i := 2) d_M_orders_4 rfl lg2 ?_
    refine j_iload_n (i := 0) d_M_orders_5 rfl lg0 ?_
    refine j_icmp_gtN (tgt := 19) d_M_orders_6 (by decide) (by omega) (by omega) (fun h_6 => ?_) (fun h_6 => ?_)
    ·
      refine j_iload_n (i := 1) d_M_orders_19 rfl lg1 ?_
      refine j_iret d_M_orders_20 ⟨by rw [hv, g_ord_end hi hi2 (by omega)], rfl, rfl⟩
    ·
      refine j_iload_n (i := 1) d_M_orders_9 rfl lg1 ?_
      refine j_iload_n (i := 2) d_M_orders_10 rfl lg2 ?_
      refine j_imulN d_M_orders_11 ?_
      refine j_istore_n d_M_orders_12 rfl ls1i ?_
      refine j_iincN (k := 1) d_M_orders_13 lg2 (by decide) ls2i ?_
      refine j_goto (tgt := 4) d_M_orders_16 (by decide) ?_
      exact ih (i + 1) _ (by omega) (by omega) (by rw [hv, g_ord_mul i (by omega) (by omega), Nat.add_sub_cancel]) (by omega)
set_option maxRecDepth 4000 in
theorem c_M_orders {G : g_G} (l : Launch) (V : g_V) (S : g_L) (k : Nat) (hk : k ≤ 6) : g_C G l y_M_orders b_M_orders 3 (some .int) 1 [.int (nI (k))] V S (fun r V' S' => r = some (.int (nI (g_ord k))) ∧ V' = V ∧ S' = S) := by
  refine g_C.of (lv := [some (.int (nI (k))), none, none]) (by decide +kernel) rfl rfl rfl (Nat.le_of_ble_eq_true rfl) ?_
  refine j_iconstN (k := 1) d_M_orders_0 (by decide) ?_
  refine j_istore_n d_M_orders_1 rfl ls1i ?_
  refine j_iconstN (k := 2) d_M_orders_2 (by decide) ?_
  refine j_istore_n d_M_orders_3 rfl ls2i ?_
  exact lp_M_orders l V S k hk _ 2 1 (by omega) (by omega) rfl (Nat.lt_succ_self _)
set_option maxRecDepth 4000 in
theorem lp_M_divisor {G : g_G} (l : Launch) (V : g_V) (S : g_L) (a b : Nat) (ha : a < 2 ^ 31) (hb : b < 2 ^ 31) : ∀ (n : Nat) (x y : Nat), (x < 2 ^ 31) → (y < 2 ^ 31) → (Nat.gcd a b = Nat.gcd x y) → y < n → JW G (g_M G l 1 (some .int) (fun r V' S' => r = some (.int (nI (Nat.gcd a b))) ∧ V' = V ∧ S' = S)) b_M_divisor R_M 13 [some (.int (nI (a))), some (.int (nI (b))), some (.int (nI (x))), some (.int (nI (y))), none] [] V S := by
  intro n
  induction n with
  | zero => intro x y hx hy he hm; exact absurd hm (Nat.not_lt_zero _)
  | succ n ih =>
    intro x y hx hy he hm
    refine j_iload_n (i := 3) d_M_divisor_13 rfl lg3 ?_
    refine j_if_eqN (tgt := 30) d_M_divisor_14 (by decide) (by omega) (fun h_14 => ?_) (fun h_14 => ?_)
    ·
      refine j_iload_n (i := 2) d_M_divisor_30 rfl lg2 ?_
      refine j_iret d_M_divisor_31 ⟨by rw [he, show y = 0 by omega, Nat.gcd_zero_right], rfl, rfl⟩
    ·
      refine j_iload_n (i := 2) d_M_divisor_17 rfl lg2 ?_
      refine j_iload_n (i := 3) d_M_divisor_18 rfl lg3 ?_
      refine j_iremN d_M_divisor_19 (by omega) (by omega) (by omega) ?_
      refine j_istore d_M_divisor_20 ls4i ?_
      refine j_iload_n (i := 3) d_M_divisor_22 rfl lg3 ?_
      refine j_istore_n d_M_divisor_23 rfl ls2i ?_
      refine j_iload d_M_divisor_24 lg4 ?_
      refine j_istore_n d_M_divisor_26 rfl ls3i ?_
      refine j_goto (tgt := 13) d_M_divisor_27 (by decide) ?_
      have hy0 : 0 < y := by omega
      have hmod := Nat.mod_lt x hy0
      exact j_fg 4 (ih y (x % y) (by omega) (by omega) (by rw [he, g_gcd hy0]) (by omega))
set_option maxRecDepth 4000 in
theorem c_M_divisor {G : g_G} (l : Launch) (V : g_V) (S : g_L) (a b : Nat) (ha : a < 2 ^ 31) (hb : b < 2 ^ 31) : g_C G l y_M_divisor b_M_divisor 5 (some .int) 1 [.int (nI (a)), .int (nI (b))] V S (fun r V' S' => r = some (.int (nI (Nat.gcd a b))) ∧ V' = V ∧ S' = S) := by
  refine g_C.of (lv := [some (.int (nI (a))), some (.int (nI (b))), none, none, none]) (by decide +kernel) rfl rfl rfl (Nat.le_of_ble_eq_true rfl) ?_
  refine j_iload_n (i := 0) d_M_divisor_0 rfl lg0 ?_
  refine j_if_ge (tgt := 9) d_M_divisor_1 (by decide) (fun _ => ?_) (fun h => absurd (nI_pos' (by omega)) h)
  refine j_iload_n (i := 0) d_M_divisor_9 rfl lg0 ?_
  refine j_istore_n d_M_divisor_10 rfl ls2i ?_
  refine j_iload_n (i := 1) d_M_divisor_11 rfl lg1 ?_
  refine j_istore_n d_M_divisor_12 rfl ls3i ?_
  exact lp_M_divisor l V S a b ha hb _ a b ha hb rfl (Nat.lt_succ_self _)
set_option maxRecDepth 4000 in
theorem c_M_fraction {G : g_G} (l : Launch) (V : g_V) (S : g_L) (a b u : Nat) (ha : a < 2 ^ 31) (hb0 : 0 < b) (hb : b < 2 ^ 31) (hu : u < 2) : g_C G l y_M_fraction b_M_fraction 4 (some .int) 2 [.int (nI (a)), .int (nI (b)), .int (nI (u))] V S (fun r V' S' => r = some (.int (nI ((if u = 0 then b else a) / Nat.gcd a b))) ∧ V' = V ∧ S' = S) := by
  refine g_C.of (lv := [some (.int (nI (a))), some (.int (nI (b))), some (.int (nI (u))), none]) (by decide +kernel) rfl rfl rfl (Nat.le_of_ble_eq_true rfl) ?_
  have hg0 : 0 < Nat.gcd a b := Nat.gcd_pos_of_pos_right a hb0
  have hg1 : Nat.gcd a b ≤ b := Nat.gcd_le_right a hb0
  refine j_iload_n (i := 0) d_M_fraction_0 rfl lg0 ?_
  refine j_iload_n (i := 1) d_M_fraction_1 rfl lg1 ?_
  refine cl_M_179 (c_M_divisor l V S (a) (b) (by omega) (by omega)) d_M_fraction_2 rfl rfl (g_ftM (by decide)) (Nat.le_of_ble_eq_true rfl) (g_pu ?_)
  refine j_istore_n d_M_fraction_5 rfl ls3i ?_
  refine j_iload_n (i := 2) d_M_fraction_6 rfl lg2 ?_
  refine j_if_eqN (tgt := 16) d_M_fraction_7 (by decide) (by omega) (fun h_7 => ?_) (fun h_7 => ?_)
  ·
    refine j_iload_n (i := 1) d_M_fraction_16 rfl lg1 ?_
    refine j_iload_n (i := 3) d_M_fraction_17 rfl lg3 ?_
    refine j_idivN d_M_fraction_18 (by omega) (by omega) (by omega) ?_
    refine j_iret d_M_fraction_19 ⟨by rw [if_pos h_7], rfl, rfl⟩
  ·
    refine j_iload_n (i := 0) d_M_fraction_10 rfl lg0 ?_
    refine j_iload_n (i := 3) d_M_fraction_11 rfl lg3 ?_
    refine j_idivN d_M_fraction_12 (by omega) (by omega) (by omega) ?_
    refine j_goto (tgt := 19) d_M_fraction_13 (by decide) ?_
    refine j_iret d_M_fraction_19 ⟨by rw [if_neg h_7], rfl, rfl⟩
/-- the trial page, its first i places as the page has them -/
def g_bg (V : g_V) (i : Nat) : g_V := g_row V 208 (fun k => if k < i then V 207 k else V 208 k)
theorem g_bg_N {V : g_V} {i c : Nat} (h : c ≠ 208) : g_bg V i c = V c := g_rowN h
theorem g_bg_S {V : g_V} {i k : Nat} (h : k < i) : g_bg V i 208 k = V 207 k := by unfold g_bg; rw [g_rowS]; exact if_pos h
theorem g_bg_0 {V : g_V} : g_bg V 0 = V := by
  funext c k
  unfold g_bg g_row
  by_cases h : c = 208
  · subst h; simp
  · simp [h]
theorem g_bg_step {V : g_V} {i : Nat} : g_up (g_bg V i) 208 i (V 207 i) = g_bg V (i + 1) := by
  funext c k
  unfold g_up g_bg g_row
  by_cases h : c = 208
  · subst h
    by_cases hk : k = i
    · subst hk; simp
    · by_cases hl : k < i
      · simp [hk, hl, show k < i + 1 by omega]
      · simp [hk, hl, show ¬ k < i + 1 by omega]
  · simp [h]
set_option maxRecDepth 4000 in
theorem lp_M_begin {G : g_G} (l : Launch) (V : g_V) (S : g_L)  : ∀ (n : Nat) (i : Nat), (i ≤ 57) → 57 - i < n → JW G (g_M G l 1 none (fun r V' S' => r = none ∧ V' = g_bg V 57 ∧ S' = S)) b_M_begin R_M 2 [some (.ref (g_a G (201))), some (.int (nI (i)))] [] (g_bg V i) S := by
  intro n
  induction n with
  | zero => intro i hi hm; exact absurd hm (Nat.not_lt_zero _)
  | succ n ih =>
    intro i hi hm
    refine j_iload_n (i := 1) d_M_begin_2 rfl lg1 ?_
    refine j_bipushN (k := 57) d_M_begin_3 (by decide) ?_
    refine j_icmp_geN (tgt := 26) d_M_begin_5 (by decide) (by omega) (by omega) (fun h_5 => ?_) (fun h_5 => ?_)
    ·
      refine j_vret d_M_begin_26 ⟨rfl, by rw [show i = 57 by omega], rfl⟩
    ·
      refine j_aload_n (i := 0) d_M_begin_8 rfl lg0 ?_
      refine gf_M_28 d_M_begin_9 ?_
      refine j_iload_n (i := 1) d_M_begin_12 rfl lg1 ?_
      refine j_aload_n (i := 0) d_M_begin_13 rfl lg0 ?_
      refine gf_M_25 d_M_begin_14 ?_
      refine j_iload_n (i := 1) d_M_begin_17 rfl lg1 ?_
      refine j_iald d_M_begin_18 gI_207 (by omega) ?_
      rw [show g_bg V i 207 = V 207 from g_bg_N (by decide)]
      refine j_iast d_M_begin_19 gI_208 (by omega) ?_
      refine j_iincN (k := 1) d_M_begin_20 lg1 (by decide) ls1r ?_
      refine j_goto (tgt := 2) d_M_begin_23 (by decide) ?_
      rw [g_bg_step]
      exact ih (i + 1) (by omega) (by omega)
set_option maxRecDepth 4000 in
theorem c_M_begin {G : g_G} (l : Launch) (V : g_V) (S : g_L)  : g_C G l y_M_begin b_M_begin 2 none 1 [.ref (g_a G (201))] V S (fun r V' S' => r = none ∧ V' = g_bg V 57 ∧ S' = S) := by
  refine g_C.of (lv := [some (.ref (g_a G (201))), none]) (by decide +kernel) rfl rfl rfl (Nat.le_of_ble_eq_true rfl) ?_
  refine j_iconstN (k := 0) d_M_begin_0 (by decide) ?_
  refine j_istore_n d_M_begin_1 rfl ls1r ?_
  have h := lp_M_begin (G := G) l V S _ 0 (by omega) (Nat.lt_succ_self _)
  rw [g_bg_0] at h
  exact h
/-- the heights of page c behind a storm of x, up to i -/
def g_gs (V : g_V) (c x i : Nat) : g_V := g_row V c (fun k => if k < i then q_bh (M_str V c k) (V c k) x else V c k)
theorem g_gs_N {V : g_V} {c x i c' : Nat} (h : c' ≠ c) : g_gs V c x i c' = V c' := g_rowN h
theorem g_gs_S {V : g_V} {c x i k : Nat} (h : i ≤ k) : g_gs V c x i c k = V c k := by
  unfold g_gs; rw [g_rowS]; exact if_neg (by omega)
theorem g_gs_0 {V : g_V} {c x : Nat} : g_gs V c x 0 = V := by
  funext c' k
  unfold g_gs g_row
  by_cases h : c' = c
  · subst h; simp
  · simp [h]
theorem g_gs_step {V : g_V} {c x i : Nat} : g_up (g_gs V c x i) c i (q_bh (M_str V c i) (V c i) x) = g_gs V c x (i + 1) := by
  funext c' k
  unfold g_up g_gs g_row
  by_cases hc : c' = c
  · subst hc
    by_cases hk : k = i
    · subst hk; simp
    · simp only [hk, and_false, if_false, if_true]
      by_cases hl : k < i
      · rw [if_pos hl, if_pos (by omega)]
      · rw [if_neg hl, if_neg (by omega)]
  · simp [hc]
/-- a storm of x gone over page c -/
def g_go (V : g_V) (c x : Nat) : g_V := g_up (g_up (g_gs V c x (V 201 4)) c 18 (V c 18 ||| q_brk (V 201 4) (M_str V c) x)) c 20 (V c 20 + 1)
theorem q_bh_b {s h x : Nat} (q : s < x) : q_bh s h x = 0 := if_pos q
theorem q_bh_e {s h x : Nat} (q : s = x) : q_bh s h x = h - 1 := by unfold q_bh; rw [if_neg (by omega), if_pos q.symm]
theorem q_bh_n {s h x : Nat} (q : ¬ s < x) (q2 : ¬ s = x) : q_bh s h x = h := by unfold q_bh; rw [if_neg q, if_neg (fun e => q2 e.symm)]
set_option maxRecDepth 4000 in
theorem lp_M_goStorm {G : g_G} (l : Launch) (V : g_V) (S : g_L) (hn : V 201 4 ≤ 6) (hK : M_K V) (c x : Nat) (hc : g_I c 57) (h1 : c ≠ 201) (h3 : c ≠ 203) (h4 : c ≠ 204) (h5 : c ≠ 205) (hH : g_H V c) (hx : x ≤ 20) : ∀ (n : Nat) (i : Nat), (i ≤ V 201 4) → (i ≤ 6) → V 201 4 - i < n → JW G (g_M G l 3 (some .int) (fun r V' S' => r = some (.int (nI (q_brk (V 201 4) (M_str V c) x))) ∧ V' = g_go V c x ∧ S' = S)) b_M_goStorm R_M 10 [some (.ref (g_a G (201))), some (.ref (g_a G (c))), some (.int (nI (x))), some (.int (nI (q_brk (V 201 4) (M_str V c) x))), some (.int (nI (i)))] [] (g_gs V c x i) S := by
  intro n
  induction n with
  | zero => intro i hi hi6 hm; exact absurd hm (Nat.not_lt_zero _)
  | succ n ih =>
    intro i hi hi6 hm
    have e1 : g_gs V c x i 201 = V 201 := g_gs_N (Ne.symm h1)
    have e3 : g_gs V c x i 203 = V 203 := g_gs_N (Ne.symm h3)
    have e4 : g_gs V c x i 204 = V 204 := g_gs_N (Ne.symm h4)
    have e5 : g_gs V c x i 205 = V 205 := g_gs_N (Ne.symm h5)
    have ec : g_gs V c x i c i = V c i := g_gs_S (Nat.le_refl i)
    have e18 : g_gs V c x i c 18 = V c 18 := g_gs_S (by omega)
    have e20 : g_gs V c x i c 20 = V c 20 := g_gs_S (by omega)
    have es : M_str (g_gs V c x i) c i = M_str V c i := by unfold M_str; rw [e3, e5, ec]
    have hKg : M_K (g_gs V c x i) := by unfold M_K; rw [e3, e4, e5]; exact hK
    have hB6 := q_brk_lt (m := 6) (s := M_str V c) (x := x) hn
    refine j_iload d_M_goStorm_10 lg4 ?_
    refine j_aload_n (i := 0) d_M_goStorm_12 rfl lg0 ?_
    refine gf_M_51 d_M_goStorm_13 ?_
    rw [e1]
    refine j_icmp_geN (tgt := 74) d_M_goStorm_16 (by decide) (by omega) (by omega) (fun h_16 => ?_) (fun h_16 => ?_)
    ·
      refine j_aload_n (i := 1) d_M_goStorm_74 rfl lg1 ?_
      refine j_bipushN (k := 18) d_M_goStorm_75 (by decide) ?_
      refine j_dup2 d_M_goStorm_77 rfl rfl ?_
      refine j_iald d_M_goStorm_78 hc (by omega) ?_
      rw [e18]
      refine j_iload_n (i := 3) d_M_goStorm_79 rfl lg3 ?_
      refine j_iorN d_M_goStorm_80 ?_
      refine j_iast d_M_goStorm_81 hc (by omega) ?_
      refine j_aload_n (i := 1) d_M_goStorm_82 rfl lg1 ?_
      refine j_bipushN (k := 20) d_M_goStorm_83 (by decide) ?_
      refine j_dup2 d_M_goStorm_85 rfl rfl ?_
      refine j_iald d_M_goStorm_86 hc (by omega) ?_
      refine j_eqv (b := (g_gs V c x i) c 20) (by rw [g_upK (by decide)]) ?_
      rw [e20]
      refine j_iconstN (k := 1) d_M_goStorm_87 (by decide) ?_
      refine j_iaddN d_M_goStorm_88 ?_
      refine j_iast d_M_goStorm_89 hc (by omega) ?_
      refine j_iload_n (i := 3) d_M_goStorm_90 rfl lg3 ?_
      refine j_iret d_M_goStorm_91 ⟨rfl, by rw [show i = V 201 4 by omega]; rfl, rfl⟩
    ·
      refine j_iload_n (i := 3) d_M_goStorm_19 rfl lg3 ?_
      refine j_iload d_M_goStorm_20 lg4 ?_
      refine cl_M_78 (c_M_has l (g_gs V c x i) S (q_brk (V 201 4) (M_str V c) x) i (by omega) (by omega)) d_M_goStorm_22 rfl rfl (g_ftM (by decide)) (Nat.le_of_ble_eq_true rfl) (g_pu ?_)
      refine j_if_eqB (tgt := 38) d_M_goStorm_25 (by decide) (fun h_25 => ?_) (fun h_25 => ?_)
      ·
        refine j_aload_n (i := 0) d_M_goStorm_38 rfl lg0 ?_
        refine j_aload_n (i := 1) d_M_goStorm_39 rfl lg1 ?_
        refine j_iload d_M_goStorm_40 lg4 ?_
        refine cl_M_101 (c_M_strength l (g_gs V c x i) S c i hc (by omega) hKg) d_M_goStorm_42 rfl rfl (g_ftM (by decide)) (Nat.le_of_ble_eq_true rfl) (g_pu ?_)
        rw [es]
        have hq := M_str_lt hK hH (i := i) (by omega)
        refine j_iload_n (i := 2) d_M_goStorm_45 rfl lg2 ?_
        refine j_icmp_neN (tgt := 68) d_M_goStorm_46 (by decide) (by omega) (by omega) (fun h_46 => ?_) (fun h_46 => ?_)
        ·
          refine j_iincN (k := 1) d_M_goStorm_68 lg4 (by decide) ls4i ?_
          refine j_goto (tgt := 10) d_M_goStorm_71 (by decide) ?_
          have hw := g_gs_step (V := V) (c := c) (x := x) (i := i)
          have hbh : q_bh (M_str V c i) (V c i) x = V c i := q_bh_n (fun q => h_25 (q_brk_tb.mpr ⟨by omega, q⟩)) h_46
          rw [hbh, g_up_id ec] at hw
          rw [hw]
          exact ih (i + 1) (by omega) (by omega) (by omega)
        ·
          have hci := hH i (by omega)
          refine j_aload_n (i := 1) d_M_goStorm_49 rfl lg1 ?_
          refine j_iconstN (k := 0) d_M_goStorm_50 (by decide) ?_
          refine j_iload d_M_goStorm_51 lg4 ?_
          refine j_iaddN d_M_goStorm_53 ?_
          rw [Nat.zero_add]
          refine j_iald d_M_goStorm_54 hc (by omega) ?_
          rw [ec]
          refine j_if_le (tgt := 68) d_M_goStorm_55 (by decide) (fun h_55 => ?_) (fun h_55 => ?_)
          ·
            refine j_iincN (k := 1) d_M_goStorm_68 lg4 (by decide) ls4i ?_
            refine j_goto (tgt := 10) d_M_goStorm_71 (by decide) ?_
            have hw := g_gs_step (V := V) (c := c) (x := x) (i := i)
            have hbh : q_bh (M_str V c i) (V c i) x = V c i := by rw [q_bh_e h_46]; have := (g_ile0 (by omega)).mp h_55; omega
            rw [hbh, g_up_id ec] at hw
            rw [hw]
            exact ih (i + 1) (by omega) (by omega) (by omega)
          ·
            have hpos : ¬ V c i = 0 := fun q => h_55 ((g_ile0 (by omega)).mpr q)
            refine j_aload_n (i := 1) d_M_goStorm_58 rfl lg1 ?_
            refine j_iconstN (k := 0) d_M_goStorm_59 (by decide) ?_
            refine j_iload d_M_goStorm_60 lg4 ?_
            refine j_iaddN d_M_goStorm_62 ?_
            rw [Nat.zero_add]
            refine j_dup2 d_M_goStorm_63 rfl rfl ?_
            refine j_iald d_M_goStorm_64 hc (by omega) ?_
            rw [ec]
            refine j_iconstN (k := 1) d_M_goStorm_65 (by decide) ?_
            refine j_isubN d_M_goStorm_66 (by omega) ?_
            refine j_iast d_M_goStorm_67 hc (by omega) ?_
            refine j_iincN (k := 1) d_M_goStorm_68 lg4 (by decide) ls4i ?_
            refine j_goto (tgt := 10) d_M_goStorm_71 (by decide) ?_
            have hw := g_gs_step (V := V) (c := c) (x := x) (i := i)
            rw [q_bh_e h_46] at hw
            rw [hw]
            exact ih (i + 1) (by omega) (by omega) (by omega)
      ·
        refine j_aload_n (i := 1) d_M_goStorm_28 rfl lg1 ?_
        refine j_iconstN (k := 0) d_M_goStorm_29 (by decide) ?_
        refine j_iload d_M_goStorm_30 lg4 ?_
        refine j_iaddN d_M_goStorm_32 ?_
        rw [Nat.zero_add]
        refine j_iconstN (k := 0) d_M_goStorm_33 (by decide) ?_
        refine j_iast d_M_goStorm_34 hc (by omega) ?_
        refine j_goto (tgt := 68) d_M_goStorm_35 (by decide) ?_
        refine j_iincN (k := 1) d_M_goStorm_68 lg4 (by decide) ls4i ?_
        refine j_goto (tgt := 10) d_M_goStorm_71 (by decide) ?_
        have hw := g_gs_step (V := V) (c := c) (x := x) (i := i)
        rw [q_bh_b (q_brk_tb.mp h_25).2] at hw
        rw [hw]
        exact ih (i + 1) (by omega) (by omega) (by omega)
set_option maxRecDepth 4000 in
theorem c_M_goStorm {G : g_G} (l : Launch) (V : g_V) (S : g_L) (hn : V 201 4 ≤ 6) (hK : M_K V) (c x : Nat) (hc : g_I c 57) (h1 : c ≠ 201) (h3 : c ≠ 203) (h4 : c ≠ 204) (h5 : c ≠ 205) (hH : g_H V c) (hx : x ≤ 20) : g_C G l y_M_goStorm b_M_goStorm 5 (some .int) 3 [.ref (g_a G (201)), .ref (g_a G (c)), .int (nI (x))] V S (fun r V' S' => r = some (.int (nI (q_brk (V 201 4) (M_str V c) x))) ∧ V' = g_go V c x ∧ S' = S) := by
  refine g_C.of (lv := [some (.ref (g_a G (201))), some (.ref (g_a G (c))), some (.int (nI (x))), none, none]) (by decide +kernel) rfl rfl rfl (Nat.le_of_ble_eq_true rfl) ?_
  refine j_aload_n (i := 0) d_M_goStorm_0 rfl lg0 ?_
  refine j_aload_n (i := 1) d_M_goStorm_1 rfl lg1 ?_
  refine j_iload_n (i := 2) d_M_goStorm_2 rfl lg2 ?_
  refine cl_M_105 (c_M_breaksBy l V S (by omega) hK (c) (x) hc hH (by omega)) d_M_goStorm_3 rfl rfl (g_ftM (by decide)) (Nat.le_of_ble_eq_true rfl) (g_pu ?_)
  refine j_istore_n d_M_goStorm_6 rfl ls3i ?_
  refine j_iconstN (k := 0) d_M_goStorm_7 (by decide) ?_
  refine j_istore d_M_goStorm_8 ls4i ?_
  have h := lp_M_goStorm (G := G) l V S hn hK c x hc h1 h3 h4 h5 hH hx _ 0 (by omega) (by omega) (Nat.lt_succ_self _)
  rw [g_gs_0] at h
  exact h
