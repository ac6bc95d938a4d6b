/-! The reference: at rest. -/
/-- heights that may be given clay -/
def g_H9 (V : g_V) (c : Nat) : Prop := ∀ i, i < 6 → V c i ≤ 900
theorem M_str_lt9 {V : g_V} {c : Nat} (hK : M_K V) (hH : g_H9 V c) {i : Nat} (hi : i < 6) : M_str V c i < 2000 := q_str_lt (hK i hi).1 (by have := hH i hi; omega)
set_option maxRecDepth 4000 in
theorem lp_M_breaksBy9 {G : g_G} (l : Launch) (V : g_V) (S : g_L) (hn : V 201 4 ≤ 6) (hK : M_K V) (c x : Nat) (hc : g_I c 57) (hH : g_H9 V c) (hx : x ≤ 20) : ∀ (n : Nat) (i b : Nat), (i ≤ V 201 4) → (b = q_brk i (M_str V c) x) → V 201 4 - i < n → JW G (g_M G l 2 (some .int) (fun r V' S' => r = some (.int (nI (q_brk (V 201 4) (M_str V c) x))) ∧ V' = V ∧ S' = S)) b_M_breaksBy R_M 5 [some (.ref (g_a G (201))), some (.ref (g_a G (c))), some (.int (nI (x))), some (.int (nI (b))), some (.int (nI (i)))] [] V S := by
  intro n
  induction n with
  | zero => intro i b hi hb hm; exact absurd hm (Nat.not_lt_zero _)
  | succ n ih =>
    intro i b hi hb hm
    refine j_iload d_M_breaksBy_5 lg4 ?_
    refine j_aload_n (i := 0) d_M_breaksBy_7 rfl lg0 ?_
    refine gf_M_51 d_M_breaksBy_8 ?_
    refine j_icmp_geN (tgt := 42) d_M_breaksBy_11 (by decide) (by omega) (by omega) (fun h_11 => ?_) (fun h_11 => ?_)
    ·
      refine j_iload_n (i := 3) d_M_breaksBy_42 rfl lg3 ?_
      refine j_iret d_M_breaksBy_43 ⟨by rw [hb, show i = V 201 4 by omega], rfl, rfl⟩
    ·
      have hs := M_str_lt9 hK hH (i := i) (by omega)
      refine j_iload_n (i := 3) d_M_breaksBy_14 rfl lg3 ?_
      refine j_iload_n (i := 2) d_M_breaksBy_15 rfl lg2 ?_
      refine j_aload_n (i := 0) d_M_breaksBy_16 rfl lg0 ?_
      refine j_aload_n (i := 1) d_M_breaksBy_17 rfl lg1 ?_
      refine j_iload d_M_breaksBy_18 lg4 ?_
      refine cl_M_101 (c_M_strength l V S (c) (i) hc (by omega) hK) d_M_breaksBy_20 rfl rfl (g_ftM (by decide)) (Nat.le_of_ble_eq_true rfl) (g_pu ?_)
      refine j_icmp_leN (tgt := 33) d_M_breaksBy_23 (by decide) (by omega) (by omega) (fun h_23 => ?_) (fun h_23 => ?_)
      ·
        refine j_iconstN (k := 0) d_M_breaksBy_33 (by decide) ?_
        refine j_iorN d_M_breaksBy_34 ?_
        refine j_istore_n d_M_breaksBy_35 rfl ls3i ?_
        refine j_iincN (k := 1) d_M_breaksBy_36 lg4 (by decide) ls4i ?_
        refine j_goto (tgt := 5) d_M_breaksBy_39 (by decide) ?_
        exact ih (i + 1) _ (by omega) (by rw [hb]; show _ = q_or i _ ||| (if _ then _ else _); rw [if_neg (show ¬ M_str V c i < x from Nat.not_lt.mpr h_23)]; rfl) (by omega)
      ·
        refine j_iconstN (k := 1) d_M_breaksBy_26 (by decide) ?_
        refine j_iload d_M_breaksBy_27 lg4 ?_
        refine j_ishlN d_M_breaksBy_29 (by omega) ?_
        refine j_goto (tgt := 34) d_M_breaksBy_30 (by decide) ?_
        refine j_iorN d_M_breaksBy_34 ?_
        refine j_istore_n d_M_breaksBy_35 rfl ls3i ?_
        refine j_iincN (k := 1) d_M_breaksBy_36 lg4 (by decide) ls4i ?_
        refine j_goto (tgt := 5) d_M_breaksBy_39 (by decide) ?_
        exact ih (i + 1) _ (by omega) (by rw [hb]; show _ = q_or i _ ||| (if _ then _ else _); rw [if_pos (show M_str V c i < x from h_23)]; rfl) (by omega)
set_option maxRecDepth 4000 in
theorem c_M_breaksBy9 {G : g_G} (l : Launch) (V : g_V) (S : g_L) (hn : V 201 4 ≤ 6) (hK : M_K V) (c x : Nat) (hc : g_I c 57) (hH : g_H9 V c) (hx : x ≤ 20) : g_C G l y_M_breaksBy b_M_breaksBy 5 (some .int) 2 [.ref (g_a G (201)), .ref (g_a G (c)), .int (nI (x))] V S (fun r V' S' => r = some (.int (nI (q_brk (V 201 4) (M_str V c) x))) ∧ V' = V ∧ S' = S) := by
  refine g_C.of (lv := [some (.ref (g_a G (201))), some (.ref (g_a G (c))), some (.int (nI (x))), none, none]) (by decide +kernel) rfl rfl rfl (Nat.le_of_ble_eq_true rfl) ?_
  refine j_iconstN (k := 0) d_M_breaksBy_0 (by decide) ?_
  refine j_istore_n d_M_breaksBy_1 rfl ls3i ?_
  refine j_iconstN (k := 0) d_M_breaksBy_2 (by decide) ?_
  refine j_istore d_M_breaksBy_3 ls4i ?_
  exact lp_M_breaksBy9 l V S hn hK c x hc hH hx _ 0 0 (by omega) rfl (Nat.lt_succ_self _)
theorem q_str_add {k g h e : Nat} : q_str k g (h + e) = q_str k g h + e := by
  unfold q_str
  split
  · omega
  · split
    · omega
    · split <;> omega
/-- what breaks when one stretch is given clay -/
theorem q_brk_given {n s g x : Nat} {t : Nat → Nat} (hn : n ≤ 6) (hs : s < n) : q_brk n (fun i => if i = s then t i + g else t i) x = (q_brk n t x &&& (63 ^^^ 1 <<< s)) ||| (if t s + g < x then 1 <<< s else 0) := by
  apply Nat.eq_of_testBit_eq
  intro k
  rw [Bool.eq_iff_iff, q_brk_tb, Nat.testBit_or, Nat.testBit_and, Bool.or_eq_true, Bool.and_eq_true, q_brk_tb, Nat.testBit_xor]
  have h63 : (63 : Nat).testBit k = decide (k < 6) := Nat.testBit_two_pow_sub_one 6 k
  rw [h63]
  by_cases e : k = s
  · subst e
    have hb : (1 <<< k).testBit k = true := q_bit_tb.mpr rfl
    rw [hb, if_pos rfl]
    by_cases q : t k + g < x
    · rw [if_pos q, hb]
      exact ⟨fun _ => Or.inr rfl, fun _ => ⟨hs, q⟩⟩
    · rw [if_neg q, Nat.zero_testBit]
      have h6 : decide (k < 6) = true := decide_eq_true (by omega)
      rw [h6]
      constructor
      · exact fun h => absurd h.2 q
      · rintro (h | h)
        · exact absurd h.2 (by decide)
        · cases h
  · have hb : (1 <<< s).testBit k = false := by
      rw [← Bool.not_eq_true]
      exact fun h => e (q_bit_tb.mp h).symm
    rw [hb, if_neg e]
    have hz : (if t s + g < x then 1 <<< s else 0).testBit k = false := by
      split
      · exact hb
      · exact Nat.zero_testBit k
    rw [hz]
    constructor
    · intro h
      refine Or.inl ⟨h, ?_⟩
      rw [decide_eq_true (show k < 6 by omega)]
      rfl
    · rintro (h | h)
      · exact h.1
      · cases h
set_option maxRecDepth 4000 in
theorem c_M_gainOf {G : g_G} (l : Launch) (V : g_V) (S : g_L) (hn : V 201 4 ≤ 6) (hK : M_K V) (hH : g_H V 207) (hd : V 207 19 < 64) (f g p s x : Nat) (hf : f < V 201 4) (hg : g < 4) (hp : p < 4) (hs : s < V 201 4) (hx : x ≤ 20) : g_C G l y_M_gainOf b_M_gainOf 7 (some .int) 3 [.ref (g_a G (201)), .int (nI (f)), .int (nI (g)), .int (nI (p)), .int (nI (s)), .int (nI (x))] V S (fun r V' S' => S' = S ∧ r = some (.int (D_lo (g_rg (g_cv V) s x 7) f g p)) ∧ ∀ c, c ≠ 208 → V' c = V c) := by
  refine g_C.of (lv := [some (.ref (g_a G (201))), some (.int (nI (f))), some (.int (nI (g))), some (.int (nI (p))), some (.int (nI (s))), some (.int (nI (x))), none]) (by decide +kernel) rfl rfl rfl (Nat.le_of_ble_eq_true rfl) ?_
  have t8 : ∀ k, k < 57 → g_bg V 57 208 k = V 207 k := fun k hk => g_bg_S hk
  have w4 : (g_up (g_bg V 57) 208 s (V 207 s + (g + p))) 201 4 = V 201 4 := by rw [g_up_ne (by decide), g_bg_N (by decide)]
  have w3 : (g_up (g_bg V 57) 208 s (V 207 s + (g + p))) 203 = V 203 := by rw [g_up_ne (by decide), g_bg_N (by decide)]
  have w24 : (g_up (g_bg V 57) 208 s (V 207 s + (g + p))) 204 = V 204 := by rw [g_up_ne (by decide), g_bg_N (by decide)]
  have w5 : (g_up (g_bg V 57) 208 s (V 207 s + (g + p))) 205 = V 205 := by rw [g_up_ne (by decide), g_bg_N (by decide)]
  have w19 : (g_up (g_bg V 57) 208 s (V 207 s + (g + p))) 208 19 = V 207 19 := by rw [g_upK (by omega), t8 19 (by decide)]
  have wK : M_K (g_up (g_bg V 57) 208 s (V 207 s + (g + p))) := by unfold M_K; rw [w3, w24, w5]; exact hK
  have wH : g_H9 (g_up (g_bg V 57) 208 s (V 207 s + (g + p))) 208 := fun i hi => by
    by_cases e : i = s
    · subst e; rw [g_upS]; have := hH i hi; omega
    · rw [g_upK e, t8 i (by omega)]; have := hH i hi; omega
  have wb : q_brk ((g_up (g_bg V 57) 208 s (V 207 s + (g + p))) 201 4) (M_str (g_up (g_bg V 57) 208 s (V 207 s + (g + p))) 208) x = (q_brk (V 201 4) (M_str V 207) x &&& (63 ^^^ 1 <<< s)) ||| (if M_str V 207 s + (g + p) < x then 1 <<< s else 0) := by
    rw [w4, ← q_brk_given hn hs]
    refine q_brk_ext fun i hi => ?_
    unfold M_str
    rw [w3, w5]
    show _ = (if _ then _ else _)
    by_cases e : i = s
    · subst e; rw [g_upS, if_pos rfl, q_str_add]
    · rw [g_upK e, t8 i (by omega), if_neg e]
  have hgv := D_gv_lt (V := g_cv V) hn (s := s) (x := x) (g := g + p) (by omega)
  have hbb : (q_brk (V 201 4) (M_str V 207) x &&& (63 ^^^ 1 <<< s)) ||| (if M_str V 207 s + (g + p) < x then 1 <<< s else 0) < 64 := Nat.or_lt_two_pow (n := 6) (Nat.lt_of_le_of_lt Nat.and_le_left (q_brk_lt hn)) (by
    split
    · exact q_bit_lt (by omega)
    · decide)
  have h10 : g_rg (g_cv V) s x 7 10 (g + p) = D_gv (g_cv V) s x (g + p) := g_rg_S (by omega)
  have h4r : g_rg (g_cv V) s x 7 4 f = V 204 f := congrFun (g_rg_N (by decide)) f
  refine j_aload_n (i := 0) d_M_gainOf_0 rfl lg0 ?_
  refine cl_M_167 (c_M_begin l V S) d_M_gainOf_1 rfl rfl (g_ftM (by decide)) (Nat.le_of_ble_eq_true rfl) (g_pw ?_)
  refine j_aload_n (i := 0) d_M_gainOf_4 rfl lg0 ?_
  refine gf_M_28 d_M_gainOf_5 ?_
  refine j_iconstN (k := 0) d_M_gainOf_8 (by decide) ?_
  refine j_iload d_M_gainOf_9 lg4 ?_
  refine j_iaddN d_M_gainOf_11 ?_
  rw [Nat.zero_add s]
  refine j_dup2 d_M_gainOf_12 rfl rfl ?_
  refine j_iald d_M_gainOf_13 gI_208 (by omega) ?_
  rw [t8 s (by omega)]
  refine j_iload_n (i := 2) d_M_gainOf_14 rfl lg2 ?_
  refine j_iload_n (i := 3) d_M_gainOf_15 rfl lg3 ?_
  refine j_iaddN d_M_gainOf_16 ?_
  refine j_iaddN d_M_gainOf_17 ?_
  refine j_iast d_M_gainOf_18 gI_208 (by omega) ?_
  refine j_aload_n (i := 0) d_M_gainOf_19 rfl lg0 ?_
  refine j_aload_n (i := 0) d_M_gainOf_20 rfl lg0 ?_
  refine gf_M_28 d_M_gainOf_21 ?_
  refine j_aload_n (i := 0) d_M_gainOf_24 rfl lg0 ?_
  refine j_aload_n (i := 0) d_M_gainOf_25 rfl lg0 ?_
  refine gf_M_28 d_M_gainOf_26 ?_
  refine j_iload d_M_gainOf_29 lg5 ?_
  refine cl_M_105 (c_M_breaksBy9 l (g_up (g_bg V 57) 208 s (V 207 s + (g + p))) S (by rw [w4]; exact hn) wK 208 x gI_208 wH hx) d_M_gainOf_31 rfl rfl (g_ftM (by decide)) (Nat.le_of_ble_eq_true rfl) (g_pu ?_)
  rw [wb]
  refine cl_M_128 (c_M_drownsBy l (g_up (g_bg V 57) 208 s (V 207 s + (g + p))) S (by rw [w4]; exact hn) 208 ((q_brk (V 201 4) (M_str V 207) x &&& (63 ^^^ 1 <<< s)) ||| (if M_str V 207 s + (g + p) < x then 1 <<< s else 0)) gI_208 (by rw [w19]; exact hd) hbb) d_M_gainOf_34 rfl rfl (g_ftM (by decide)) (Nat.le_of_ble_eq_true rfl) (g_pu ?_)
  rw [w4, w19, show q_wet (V 201 4) (V 207 19) ((q_brk (V 201 4) (M_str V 207) x &&& (63 ^^^ 1 <<< s)) ||| (if M_str V 207 s + (g + p) < x then 1 <<< s else 0)) = D_gv (g_cv V) s x (g + p) from rfl]
  refine j_istore d_M_gainOf_37 ls6i ?_
  refine j_iload d_M_gainOf_39 lg6 ?_
  refine j_iload_n (i := 1) d_M_gainOf_41 rfl lg1 ?_
  refine cl_M_78 (c_M_has l (g_up (g_bg V 57) 208 s (V 207 s + (g + p))) S (D_gv (g_cv V) s x (g + p)) (f) (by omega) (by omega)) d_M_gainOf_42 rfl rfl (g_ftM (by decide)) (Nat.le_of_ble_eq_true rfl) (g_pu ?_)
  refine j_if_eqB (tgt := 52) d_M_gainOf_45 (by decide) (fun h_45 => ?_) (fun h_45 => ?_)
  ·
    refine j_aload_n (i := 0) d_M_gainOf_52 rfl lg0 ?_
    refine gf_M_16 d_M_gainOf_53 ?_
    refine j_iload_n (i := 1) d_M_gainOf_56 rfl lg1 ?_
    refine j_iald d_M_gainOf_57 gI_204 (by omega) ?_
    refine j_eqv (b := (g_bg V 57) 204 f) (by rw [g_upN (by first | decide | omega | (unfold hB; omega))]) ?_
    rw [show (g_bg V 57) 204 f = V 204 f from congrFun w24 f]
    refine j_iload_n (i := 2) d_M_gainOf_58 rfl lg2 ?_
    refine j_isub d_M_gainOf_59 ?_
    refine j_iret d_M_gainOf_60 ⟨rfl, by unfold D_lo; rw [h10, h4r, if_neg h_45], fun c hc => (g_up_ne hc).trans (g_bg_N hc)⟩
  ·
    refine j_iconstN (k := 0) d_M_gainOf_48 (by decide) ?_
    refine j_goto (tgt := 58) d_M_gainOf_49 (by decide) ?_
    refine j_iload_n (i := 2) d_M_gainOf_58 rfl lg2 ?_
    refine j_isub d_M_gainOf_59 ?_
    refine j_iret d_M_gainOf_60 ⟨rfl, by unfold D_lo; rw [h10, h4r, if_pos h_45], fun c hc => (g_up_ne hc).trans (g_bg_N hc)⟩
