/-! The reference: placings. -/
theorem M_str_eq {V V' : g_V} {c : Nat} (h3 : V' 203 = V 203) (h5 : V' 205 = V 205) (h1 : V' c = V c) : M_str V' c = M_str V c := funext fun i => by unfold M_str; rw [h3, h5, h1]
/-- what the class would see of the reference's page -/
def g_cv (V : g_V) : g_V
  | 0 => fun k => if k = 1 then V 201 4 else if k = 8 then V 201 14 else 0
  | 1 => fun k => if k = 1 then V 201 2 else 0
  | 2 => V 202
  | 3 => V 203
  | 4 => V 204
  | 5 => V 205
  | 14 => fun k => if k = 4 then V 207 18 else if k = 5 then V 207 19 else if k = 6 then V 207 20 else 0
  | 15 => V 207
  | 16 => fun k => V 207 (6 + k)
  | 17 => fun k => V 207 (12 + k)
  | 19 => fun k => V 207 (21 + 6 * 0 + k)
  | 20 => fun k => V 207 (21 + 6 * 1 + k)
  | 21 => fun k => V 207 (21 + 6 * 2 + k)
  | 22 => fun k => V 207 (21 + 6 * 3 + k)
  | 23 => fun k => V 207 (21 + 6 * 4 + k)
  | 24 => fun k => V 207 (21 + 6 * 5 + k)
  | _ => fun _ => 0
theorem cv_n {V : g_V} : g_cv V 0 1 = V 201 4 := rfl
theorem cv_str {V : g_V} : D_str (g_cv V) = M_str V 207 := rfl
theorem cv_4 {V : g_V} : g_cv V 4 = V 204 := rfl
theorem cv_d {V : g_V} : g_cv V (hB 0) 5 = V 207 19 := rfl
theorem cv_clay {V : g_V} : g_cv V (hB 0 + 2) = fun i => V 207 (6 + i) := rfl
theorem cv_K {V : g_V} (h : M_K V) : g_K (g_cv V) := h
theorem cv_lw {V : g_V} {i : Nat} : D_lw (g_cv V) i = q_pick (V 201 4) (V 204) (q_wet (V 201 4) (V 207 19) ((1 <<< V 201 4 - 1) &&& (63 ^^^ i))) := rfl
abbrev q_l3 (a b c a' b' c' : Nat) : Prop := a < a' ∨ (a = a' ∧ (b < b' ∨ (b = b' ∧ c ≤ c')))
def q_pinv (f : Nat → Prop) (lw u h : Nat → Nat) (i L k H : Nat) : Prop := (L = 9999 ∧ k = 9999 ∧ ∀ j, j < i → ¬ f j) ∨ (∃ b, b < i ∧ f b ∧ L = lw b ∧ k = u b ∧ H = h b ∧ ∀ j, j < i → f j → q_l3 (lw b) (u b) (h b) (lw j) (u j) (h j))
theorem q_pinv_0 {f : Nat → Prop} {lw u h : Nat → Nat} {H : Nat} : q_pinv f lw u h 0 9999 9999 H := Or.inl ⟨rfl, rfl, fun j hj => absurd hj (Nat.not_lt_zero j)⟩
theorem q_pinv_no {f : Nat → Prop} {lw u h : Nat → Nat} {i L k H : Nat} (q : q_pinv f lw u h i L k H) (hf : ¬ f i) : q_pinv f lw u h (i + 1) L k H := by
  have hl : ∀ j, j < i + 1 → f j → j < i := fun j hj hfj => by
    by_cases e : j = i
    · subst e; exact absurd hfj hf
    · omega
  rcases q with ⟨h1, h2, h3⟩ | ⟨b, hb, h1, h2, h3, h4, h5⟩
  · exact Or.inl ⟨h1, h2, fun j hj hfj => h3 j (hl j hj hfj) hfj⟩
  · exact Or.inr ⟨b, by omega, h1, h2, h3, h4, fun j hj hfj => h5 j (hl j hj hfj) hfj⟩
theorem q_pinv_keep {f : Nat → Prop} {lw u h : Nat → Nat} {i L k H : Nat} (q : q_pinv f lw u h i L k H) (hv : lw i < 9999) (hn : ¬ (lw i < L ∨ (lw i = L ∧ (u i < k ∨ (u i = k ∧ h i < H))))) : q_pinv f lw u h (i + 1) L k H := by
  rcases q with ⟨h1, h2, h3⟩ | ⟨b, hb, h1, h2, h3, h4, h5⟩
  · exact absurd (Or.inl (by omega)) hn
  · refine Or.inr ⟨b, by omega, h1, h2, h3, h4, fun j hj hfj => ?_⟩
    by_cases e : j = i
    · subst e
      unfold q_l3
      omega
    · exact h5 j (by omega) hfj
theorem q_pinv_new {f : Nat → Prop} {lw u h : Nat → Nat} {i L k H : Nat} (q : q_pinv f lw u h i L k H) (hf : f i) (hn : lw i < L ∨ (lw i = L ∧ (u i < k ∨ (u i = k ∧ h i < H)))) : q_pinv f lw u h (i + 1) (lw i) (u i) (h i) := by
  refine Or.inr ⟨i, by omega, hf, rfl, rfl, rfl, fun j hj hfj => ?_⟩
  by_cases e : j = i
  · subst e
    unfold q_l3
    omega
  · rcases q with ⟨h1, h2, h3⟩ | ⟨b, hb, h1, h2, h3, h4, h5⟩
    · exact absurd hfj (h3 j (by omega))
    · have := h5 j (by omega) hfj
      unfold q_l3 at this ⊢
      omega
theorem g_up2 {V : g_V} {c a b x y x' y' : Nat} (h : a ≠ b) : g_up (g_up (g_up (g_up V c a x) c b y) c a x') c b y' = g_up (g_up V c a x') c b y' := by
  funext c' k
  unfold g_up
  by_cases hc : c' = c
  · subst hc
    by_cases ha : k = a
    · subst ha; simp [h]
    · by_cases hb : k = b
      · subst hb; simp
      · simp [ha, hb]
  · simp [hc]
/-- the reference's roads: more of the broken ones, clay enough -/
def M_ok (V : g_V) (x c j : Nat) : Prop := j &&& (63 ^^^ q_brk (V 201 4) (M_str V 207) x) = 0 ∧ q_lack (V 201 4) (M_str V 207) j x ≤ c
def M_hd (V : g_V) (x j : Nat) : Nat := ((1 <<< V 201 4 - 1) &&& (63 ^^^ q_brk (V 201 4) (M_str V 207) x)) ||| j
theorem q_lack_brk {n x B : Nat} {s : Nat → Nat} : q_lack n s (B &&& q_brk n s x) x = q_lack n s B x := by
  refine q_sum_ext (fun i hi => ?_)
  show (if _ then _ else _) = (if _ then _ else _)
  rw [Nat.testBit_and]
  by_cases hb : (q_brk n s x).testBit i = true
  · rw [hb, Bool.and_true]
  · have h1 : (q_brk n s x).testBit i = false := by
      cases e : (q_brk n s x).testBit i with
      | false => rfl
      | true => exact absurd e hb
    rw [h1, Bool.and_false, if_neg (by decide)]
    by_cases hB : B.testBit i = true
    · rw [if_pos hB]
      have : ¬ s i < x := fun q => hb (q_brk_tb.mpr ⟨hi, q⟩)
      omega
    · rw [if_neg hB]
theorem q_bits1 : ∀ n, n < 7 → ∀ k, k < 1 <<< n → ∀ b, b < 1 <<< n → b &&& ((1 <<< n - 1) &&& (63 ^^^ k)) = ((1 <<< n - 1) &&& (63 ^^^ k)) → ((1 <<< n - 1) &&& (63 ^^^ k)) ||| (b &&& k) = b := by decide +kernel
theorem q_bits2 : ∀ n, n < 7 → ∀ k, k < 1 <<< n → ∀ b, b < 1 <<< n → b &&& (63 ^^^ k) = 0 → (((1 <<< n - 1) &&& (63 ^^^ k)) ||| b) &&& k = b := by decide +kernel
theorem q_bits3 : ∀ n, n < 7 → ∀ k, k < 1 <<< n → ∀ b, b < 1 <<< n → ((1 <<< n - 1) &&& (63 ^^^ k)) ||| b < 1 <<< n ∧ (((1 <<< n - 1) &&& (63 ^^^ k)) ||| b) &&& ((1 <<< n - 1) &&& (63 ^^^ k)) = ((1 <<< n - 1) &&& (63 ^^^ k)) ∧ (b &&& k) &&& (63 ^^^ k) = 0 ∧ b &&& k < 1 <<< n := by decide +kernel
theorem q_brk_lt2 {n x : Nat} {s : Nat → Nat} : q_brk n s x < 1 <<< n := by
  rw [Nat.one_shiftLeft]
  exact q_brk_lt (m := n) (Nat.le_refl n)
/-- at the end the reference stands where the class stands -/
theorem M_end {V : g_V} (hn : V 201 4 ≤ 6) {x c L k H : Nat} (hc : c < 1000000) (q : q_pinv (M_ok V x c) (fun j => D_lw (g_cv V) (M_hd V x j)) (fun j => q_lack (V 201 4) (M_str V 207) j x) (M_hd V x) (1 <<< V 201 4) L k H) : L = D_lw (g_cv V) (D_best (g_cv V) x c) ∧ H = D_best (g_cv V) x c := by
  have hE := g_E64 hn
  have hk := q_brk_lt2 (n := V 201 4) (s := M_str V 207) (x := x)
  have has : D_as (g_cv V) x = (1 <<< V 201 4 - 1) &&& (63 ^^^ q_brk (V 201 4) (M_str V 207) x) := rfl
  have hcf : ∀ i, D_cf (g_cv V) x i = if i &&& D_as (g_cv V) x = D_as (g_cv V) x then q_lack (V 201 4) (M_str V 207) i x else 1000000 := fun i => rfl
  obtain ⟨h1, h2, h3⟩ := D_best_spec (V := g_cv V) (show g_cv V 0 1 ≤ 6 from hn) x c
  rw [cv_n] at h1 h3
  have hsup : D_best (g_cv V) x c &&& D_as (g_cv V) x = D_as (g_cv V) x := by
    by_cases e : D_best (g_cv V) x c &&& D_as (g_cv V) x = D_as (g_cv V) x
    · exact e
    · rw [hcf, if_neg e] at h2; omega
  have hb1 := q_bits1 (V 201 4) (by omega) _ hk _ h1 (by rw [← has]; exact hsup)
  have hb3 := q_bits3 (V 201 4) (by omega) _ hk _ h1
  have hok : M_ok V x c (D_best (g_cv V) x c &&& q_brk (V 201 4) (M_str V 207) x) := ⟨hb3.2.2.1, by rw [q_lack_brk]; rw [hcf, if_pos hsup] at h2; exact h2⟩
  rcases q with ⟨-, -, q⟩ | ⟨b, hb, h4, h5, h6, h7, h8⟩
  · exact absurd hok (q _ hb3.2.2.2)
  · have h9 := h8 _ hb3.2.2.2 hok
    have e1 : M_hd V x (D_best (g_cv V) x c &&& q_brk (V 201 4) (M_str V 207) x) = D_best (g_cv V) x c := hb1
    have e2 : q_lack (V 201 4) (M_str V 207) (D_best (g_cv V) x c &&& q_brk (V 201 4) (M_str V 207) x) x = D_cf (g_cv V) x (D_best (g_cv V) x c) := by rw [q_lack_brk, hcf, if_pos hsup]
    have hc3 := q_bits3 (V 201 4) (by omega) _ hk _ hb
    have e3 : D_cf (g_cv V) x (M_hd V x b) = q_lack (V 201 4) (M_str V 207) b x := by
      rw [hcf, if_pos (by rw [has]; exact hc3.2.1), ← q_lack_brk]
      unfold M_hd
      rw [q_bits2 (V 201 4) (by omega) _ hk _ hb h4.1]
    have h10 := h3 (M_hd V x b) hc3.1 (by rw [e3]; exact h4.2)
    simp only [e1, e2] at h9
    unfold q_le q_bet at h10
    rw [e3] at h10
    unfold q_l3 at h9
    have h11 : M_hd V x b = D_best (g_cv V) x c := by omega
    refine ⟨?_, h7.trans h11⟩
    rw [h5]
    show D_lw (g_cv V) (M_hd V x b) = _
    rw [h11]
set_option maxRecDepth 4000 in
theorem lp_M_findPlacing {G : g_G} (l : Launch) (V : g_V) (S : g_L) (hn : V 201 4 ≤ 6) (hK : M_K V) (hH : g_H V 207) (hd : V 207 19 < 64) (c x : Nat) (hc : c < 1000000) (hx : x ≤ 20) : ∀ (n : Nat) (i L k H : Nat), (i ≤ 1 <<< V 201 4) → (q_pinv (M_ok V x c) (fun j => D_lw (g_cv V) (M_hd V x j)) (fun j => q_lack (V 201 4) (M_str V 207) j x) (M_hd V x) i L k H) → (L ≤ 9999) → (k ≤ 9999) → (H < 64 ∨ L = 9999) → 1 <<< V 201 4 - i < n → JW G (g_M G l 3 none (fun r V' S' => r = none ∧ V' = g_up (g_up V 201 18 (D_lw (g_cv V) (D_best (g_cv V) x c))) 201 19 (D_best (g_cv V) x c) ∧ S' = S)) b_M_findPlacing R_M 31 [some (.ref (g_a G (201))), some (.int (nI (c))), some (.int (nI (x))), some (.int (nI (q_brk (V 201 4) (M_str V 207) x))), some (.int (nI (k))), some (.int (nI (i))), none, none, none, none] [] (g_up (g_up V 201 18 L) 201 19 H) S := by
  intro n
  induction n with
  | zero => intro i L k H hi hI hL hk hHb hm; exact absurd hm (Nat.not_lt_zero _)
  | succ n ih =>
    intro i L k H hi hI hL hk hHb hm
    have va1 : (g_up (g_up V 201 18 L) 201 19 H) 201 4 = V 201 4 := by rw [g_upK (by decide), g_upK (by decide)]
    have van : (g_up (g_up V 201 18 L) 201 19 H) 201 4 ≤ 6 := by rw [va1]; exact hn
    have va3 : (g_up (g_up V 201 18 L) 201 19 H) 203 = V 203 := (g_up_ne (by decide)).trans (g_up_ne (by decide))
    have va4 : (g_up (g_up V 201 18 L) 201 19 H) 204 = V 204 := (g_up_ne (by decide)).trans (g_up_ne (by decide))
    have va5 : (g_up (g_up V 201 18 L) 201 19 H) 205 = V 205 := (g_up_ne (by decide)).trans (g_up_ne (by decide))
    have vap : (g_up (g_up V 201 18 L) 201 19 H) 207 = V 207 := (g_up_ne (by decide)).trans (g_up_ne (by decide))
    have vad : (g_up (g_up V 201 18 L) 201 19 H) 207 19 = V 207 19 := by rw [vap]
    have vaD : (g_up (g_up V 201 18 L) 201 19 H) 207 19 < 64 := by rw [vad]; exact hd
    have vaK : M_K (g_up (g_up V 201 18 L) 201 19 H) := by unfold M_K; rw [va3, va4, va5]; exact hK
    have vaH : g_H (g_up (g_up V 201 18 L) 201 19 H) 207 := by unfold g_H; rw [vap]; exact hH
    have vas : M_str (g_up (g_up V 201 18 L) 201 19 H) 207 = M_str V 207 := M_str_eq va3 va5 vap
    have hE := g_E64 hn
    have hB6 := q_brk_lt (m := 6) (s := M_str V 207) (x := x) hn
    refine j_iload d_M_findPlacing_31 lg5 ?_
    refine j_aload_n (i := 0) d_M_findPlacing_33 rfl lg0 ?_
    refine cl_M_108 (c_M_everyone l (g_up (g_up V 201 18 L) 201 19 H) S van) d_M_findPlacing_34 rfl rfl (g_ftM (by decide)) (Nat.le_of_ble_eq_true rfl) (g_pu ?_)
    rw [va1]
    refine j_icmp_gtN (tgt := 175) d_M_findPlacing_37 (by decide) (by omega) (by omega) (fun h_37 => ?_) (fun h_37 => ?_)
    ·
      refine j_vret d_M_findPlacing_175 ⟨rfl, by rw [← (M_end hn hc (show q_pinv (M_ok V x c) (fun j => D_lw (g_cv V) (M_hd V x j)) (fun j => q_lack (V 201 4) (M_str V 207) j x) (M_hd V x) (1 <<< V 201 4) L k H by rw [show 1 <<< V 201 4 = i by omega]; exact hI)).1, ← (M_end hn hc (show q_pinv (M_ok V x c) (fun j => D_lw (g_cv V) (M_hd V x j)) (fun j => q_lack (V 201 4) (M_str V 207) j x) (M_hd V x) (1 <<< V 201 4) L k H by rw [show 1 <<< V 201 4 = i by omega]; exact hI)).2], rfl⟩
    ·
      refine j_aload_n (i := 0) d_M_findPlacing_40 rfl lg0 ?_
      refine j_iload d_M_findPlacing_41 lg5 ?_
      refine j_iload_n (i := 2) d_M_findPlacing_43 rfl lg2 ?_
      refine cl_M_134 (c_M_clayFor l (g_up (g_up V 201 18 L) 201 19 H) S van vaK vaH (i) (x) (by omega) (by omega)) d_M_findPlacing_44 rfl rfl (g_ftM (by decide)) (Nat.le_of_ble_eq_true rfl) (g_pu ?_)
      rw [va1, vas]
      have hu : q_lack (V 201 4) (M_str V 207) i x ≤ 120 := by
        have h1 : q_lack (V 201 4) (M_str V 207) i x ≤ V 201 4 * 20 := q_sum_le (fun j hj => by
          show (if _ then _ else _) ≤ 20
          split
          · exact Nat.le_trans (Nat.sub_le _ _) hx
          · exact Nat.zero_le _)
        have : V 201 4 * 20 ≤ 6 * 20 := Nat.mul_le_mul_right 20 hn
        omega
      refine j_istore d_M_findPlacing_47 ls6i ?_
      refine j_iload d_M_findPlacing_49 lg5 ?_
      refine j_iload_n (i := 3) d_M_findPlacing_51 rfl lg3 ?_
      refine j_iconst (v := -1) d_M_findPlacing_52 (by decide) ?_
      refine j_ixor d_M_findPlacing_53 ?_
      refine j_iand d_M_findPlacing_54 ?_
      rw [g_not (by omega) hB6]
      refine j_if_neN (tgt := 169) d_M_findPlacing_55 (by decide) (Nat.lt_of_le_of_lt Nat.and_le_left (by omega)) (fun h_55 => ?_) (fun h_55 => ?_)
      ·
        refine j_iincN (k := 1) d_M_findPlacing_169 lg5 (by decide) ls5i ?_
        refine j_goto (tgt := 31) d_M_findPlacing_172 (by decide) ?_
        exact j_fg 6 (ih (i + 1) L k H (by omega) (q_pinv_no hI (fun q => h_55 q.1)) hL hk hHb (by omega))
      ·
        refine j_iload d_M_findPlacing_58 lg6 ?_
        refine j_iload_n (i := 1) d_M_findPlacing_60 rfl lg1 ?_
        refine j_icmp_gtN (tgt := 169) d_M_findPlacing_61 (by decide) (by omega) (by omega) (fun h_61 => ?_) (fun h_61 => ?_)
        ·
          refine j_iincN (k := 1) d_M_findPlacing_169 lg5 (by decide) ls5i ?_
          refine j_goto (tgt := 31) d_M_findPlacing_172 (by decide) ?_
          exact j_fg 6 (ih (i + 1) L k H (by omega) (q_pinv_no hI (fun q => absurd q.2 (by omega))) hL hk hHb (by omega))
        ·
          refine j_aload_n (i := 0) d_M_findPlacing_64 rfl lg0 ?_
          refine cl_M_108 (c_M_everyone l (g_up (g_up V 201 18 L) 201 19 H) S van) d_M_findPlacing_65 rfl rfl (g_ftM (by decide)) (Nat.le_of_ble_eq_true rfl) (g_pu ?_)
          rw [va1]
          refine j_iload_n (i := 3) d_M_findPlacing_68 rfl lg3 ?_
          refine j_iconst (v := -1) d_M_findPlacing_69 (by decide) ?_
          refine j_ixor d_M_findPlacing_70 ?_
          refine j_iand d_M_findPlacing_71 ?_
          rw [g_not (by omega) hB6]
          refine j_iload d_M_findPlacing_72 lg5 ?_
          refine j_iorN d_M_findPlacing_74 ?_
          have hh6 : ((1 <<< V 201 4 - 1) &&& (63 ^^^ q_brk (V 201 4) (M_str V 207) x)) ||| i < 64 := Nat.or_lt_two_pow (n := 6) (Nat.lt_of_le_of_lt Nat.and_le_left (by omega)) (by omega)
          refine j_istore d_M_findPlacing_75 ls7i ?_
          refine j_aload_n (i := 0) d_M_findPlacing_77 rfl lg0 ?_
          refine j_aload_n (i := 0) d_M_findPlacing_78 rfl lg0 ?_
          refine j_aload_n (i := 0) d_M_findPlacing_79 rfl lg0 ?_
          refine gf_M_25 d_M_findPlacing_80 ?_
          refine j_aload_n (i := 0) d_M_findPlacing_83 rfl lg0 ?_
          refine cl_M_108 (c_M_everyone l (g_up (g_up V 201 18 L) 201 19 H) S van) d_M_findPlacing_84 rfl rfl (g_ftM (by decide)) (Nat.le_of_ble_eq_true rfl) (g_pu ?_)
          rw [va1]
          refine j_iload d_M_findPlacing_87 lg7 ?_
          refine j_iconst (v := -1) d_M_findPlacing_89 (by decide) ?_
          refine j_ixor d_M_findPlacing_90 ?_
          refine j_iand d_M_findPlacing_91 ?_
          rw [g_not (by omega) hh6]
          have hs6 : (1 <<< V 201 4 - 1) &&& (63 ^^^ (((1 <<< V 201 4 - 1) &&& (63 ^^^ q_brk (V 201 4) (M_str V 207) x)) ||| i)) < 64 := Nat.lt_of_le_of_lt Nat.and_le_left (by omega)
          refine cl_M_128 (c_M_drownsBy l (g_up (g_up V 201 18 L) 201 19 H) S van 207 ((1 <<< V 201 4 - 1) &&& (63 ^^^ (((1 <<< V 201 4 - 1) &&& (63 ^^^ q_brk (V 201 4) (M_str V 207) x)) ||| i))) gI_207 vaD (by first | omega | exact hs6)) d_M_findPlacing_92 rfl rfl (g_ftM (by decide)) (Nat.le_of_ble_eq_true rfl) (g_pu ?_)
          rw [va1, vad]
          refine cl_M_131 (c_M_worthOf l (g_up (g_up V 201 18 L) 201 19 H) S van (fun i hi => (vaK i hi).2.1) (q_wet (V 201 4) (V 207 19) ((1 <<< V 201 4 - 1) &&& (63 ^^^ (((1 <<< V 201 4 - 1) &&& (63 ^^^ q_brk (V 201 4) (M_str V 207) x)) ||| i)))) (by first | omega | exact q_wet_lt hn (by first | omega | exact hs6))) d_M_findPlacing_95 rfl rfl (g_ftM (by decide)) (Nat.le_of_ble_eq_true rfl) (g_pu ?_)
          rw [va1, va4]
          have hv54 : q_pick (V 201 4) (V 204) (q_wet (V 201 4) (V 207 19) ((1 <<< V 201 4 - 1) &&& (63 ^^^ (((1 <<< V 201 4 - 1) &&& (63 ^^^ q_brk (V 201 4) (M_str V 207) x)) ||| i)))) ≤ 54 := D_lw_le (V := g_cv V) hn (cv_K hK) _
          refine j_istore d_M_findPlacing_98 ls8i ?_
          refine j_iload d_M_findPlacing_100 lg8 ?_
          refine j_aload_n (i := 0) d_M_findPlacing_102 rfl lg0 ?_
          refine gf_M_137 d_M_findPlacing_103 ?_
          refine j_eqv (b := L) (by rw [g_upK (by decide), g_upS]) ?_
          refine j_icmp_ltN (tgt := 141) d_M_findPlacing_106 (by decide) (by omega) (by omega) (fun h_106 => ?_) (fun h_106 => ?_)
          ·
            refine j_iconstN (k := 1) d_M_findPlacing_141 (by decide) ?_
            refine j_goto (tgt := 146) d_M_findPlacing_142 (by decide) ?_
            refine j_istore d_M_findPlacing_146 ls9i ?_
            refine j_iload d_M_findPlacing_148 lg9 ?_
            refine j_if_eqN (tgt := 169) d_M_findPlacing_150 (by decide) (by omega) (fun h => absurd h (by decide)) (fun _ => ?_)
            have hbet : q_pick (V 201 4) (V 204) (q_wet (V 201 4) (V 207 19) ((1 <<< V 201 4 - 1) &&& (63 ^^^ (((1 <<< V 201 4 - 1) &&& (63 ^^^ q_brk (V 201 4) (M_str V 207) x)) ||| i)))) < L ∨ (q_pick (V 201 4) (V 204) (q_wet (V 201 4) (V 207 19) ((1 <<< V 201 4 - 1) &&& (63 ^^^ (((1 <<< V 201 4 - 1) &&& (63 ^^^ q_brk (V 201 4) (M_str V 207) x)) ||| i)))) = L ∧ (q_lack (V 201 4) (M_str V 207) i x < k ∨ (q_lack (V 201 4) (M_str V 207) i x = k ∧ ((1 <<< V 201 4 - 1) &&& (63 ^^^ q_brk (V 201 4) (M_str V 207) x)) ||| i < H))) := by omega
            refine j_aload_n (i := 0) d_M_findPlacing_153 rfl lg0 ?_
            refine j_iload d_M_findPlacing_154 lg8 ?_
            refine pf_M_137 d_M_findPlacing_156 ?_
            refine j_iload d_M_findPlacing_159 lg6 ?_
            refine j_istore d_M_findPlacing_161 ls4i ?_
            refine j_aload_n (i := 0) d_M_findPlacing_163 rfl lg0 ?_
            refine j_iload d_M_findPlacing_164 lg7 ?_
            refine pf_M_140 d_M_findPlacing_166 ?_
            refine j_iincN (k := 1) d_M_findPlacing_169 lg5 (by decide) ls5i ?_
            refine j_goto (tgt := 31) d_M_findPlacing_172 (by decide) ?_
            rw [g_up2 (by decide)]
            have hnew := q_pinv_new hI ⟨h_55, h_61⟩ (hbet)
            exact j_fg 6 (j_fg 7 (j_fg 8 (j_fg 9 (ih (i + 1) _ _ _ (by omega) hnew (by omega) (by omega) (Or.inl hh6) (by omega)))))
          ·
            refine j_iload d_M_findPlacing_109 lg8 ?_
            refine j_aload_n (i := 0) d_M_findPlacing_111 rfl lg0 ?_
            refine gf_M_137 d_M_findPlacing_112 ?_
            refine j_eqv (b := L) (by rw [g_upK (by decide), g_upS]) ?_
            refine j_icmp_neN (tgt := 145) d_M_findPlacing_115 (by decide) (by omega) (by omega) (fun h_115 => ?_) (fun h_115 => ?_)
            ·
              refine j_iconstN (k := 0) d_M_findPlacing_145 (by decide) ?_
              refine j_istore d_M_findPlacing_146 ls9i ?_
              refine j_iload d_M_findPlacing_148 lg9 ?_
              refine j_if_eqN (tgt := 169) d_M_findPlacing_150 (by decide) (by omega) (fun _ => ?_) (fun h => absurd h (by decide))
              refine j_iincN (k := 1) d_M_findPlacing_169 lg5 (by decide) ls5i ?_
              refine j_goto (tgt := 31) d_M_findPlacing_172 (by decide) ?_
              exact j_fg 6 (j_fg 7 (j_fg 8 (j_fg 9 (ih (i + 1) L k H (by omega) (q_pinv_keep hI (by show q_pick (V 201 4) (V 204) (q_wet (V 201 4) (V 207 19) ((1 <<< V 201 4 - 1) &&& (63 ^^^ (((1 <<< V 201 4 - 1) &&& (63 ^^^ q_brk (V 201 4) (M_str V 207) x)) ||| i)))) < 9999; omega) (by show ¬ (q_pick (V 201 4) (V 204) (q_wet (V 201 4) (V 207 19) ((1 <<< V 201 4 - 1) &&& (63 ^^^ (((1 <<< V 201 4 - 1) &&& (63 ^^^ q_brk (V 201 4) (M_str V 207) x)) ||| i)))) < L ∨ (q_pick (V 201 4) (V 204) (q_wet (V 201 4) (V 207 19) ((1 <<< V 201 4 - 1) &&& (63 ^^^ (((1 <<< V 201 4 - 1) &&& (63 ^^^ q_brk (V 201 4) (M_str V 207) x)) ||| i)))) = L ∧ (q_lack (V 201 4) (M_str V 207) i x < k ∨ (q_lack (V 201 4) (M_str V 207) i x = k ∧ ((1 <<< V 201 4 - 1) &&& (63 ^^^ q_brk (V 201 4) (M_str V 207) x)) ||| i < H)))); omega)) hL hk hHb (by omega)))))
            ·
              refine j_iload d_M_findPlacing_118 lg6 ?_
              refine j_iload d_M_findPlacing_120 lg4 ?_
              refine j_icmp_ltN (tgt := 141) d_M_findPlacing_122 (by decide) (by omega) (by omega) (fun h_122 => ?_) (fun h_122 => ?_)
              ·
                refine j_iconstN (k := 1) d_M_findPlacing_141 (by decide) ?_
                refine j_goto (tgt := 146) d_M_findPlacing_142 (by decide) ?_
                refine j_istore d_M_findPlacing_146 ls9i ?_
                refine j_iload d_M_findPlacing_148 lg9 ?_
                refine j_if_eqN (tgt := 169) d_M_findPlacing_150 (by decide) (by omega) (fun h => absurd h (by decide)) (fun _ => ?_)
                have hbet : q_pick (V 201 4) (V 204) (q_wet (V 201 4) (V 207 19) ((1 <<< V 201 4 - 1) &&& (63 ^^^ (((1 <<< V 201 4 - 1) &&& (63 ^^^ q_brk (V 201 4) (M_str V 207) x)) ||| i)))) < L ∨ (q_pick (V 201 4) (V 204) (q_wet (V 201 4) (V 207 19) ((1 <<< V 201 4 - 1) &&& (63 ^^^ (((1 <<< V 201 4 - 1) &&& (63 ^^^ q_brk (V 201 4) (M_str V 207) x)) ||| i)))) = L ∧ (q_lack (V 201 4) (M_str V 207) i x < k ∨ (q_lack (V 201 4) (M_str V 207) i x = k ∧ ((1 <<< V 201 4 - 1) &&& (63 ^^^ q_brk (V 201 4) (M_str V 207) x)) ||| i < H))) := by omega
                refine j_aload_n (i := 0) d_M_findPlacing_153 rfl lg0 ?_
                refine j_iload d_M_findPlacing_154 lg8 ?_
                refine pf_M_137 d_M_findPlacing_156 ?_
                refine j_iload d_M_findPlacing_159 lg6 ?_
                refine j_istore d_M_findPlacing_161 ls4i ?_
                refine j_aload_n (i := 0) d_M_findPlacing_163 rfl lg0 ?_
                refine j_iload d_M_findPlacing_164 lg7 ?_
                refine pf_M_140 d_M_findPlacing_166 ?_
                refine j_iincN (k := 1) d_M_findPlacing_169 lg5 (by decide) ls5i ?_
                refine j_goto (tgt := 31) d_M_findPlacing_172 (by decide) ?_
                rw [g_up2 (by decide)]
                have hnew := q_pinv_new hI ⟨h_55, h_61⟩ (hbet)
                exact j_fg 6 (j_fg 7 (j_fg 8 (j_fg 9 (ih (i + 1) _ _ _ (by omega) hnew (by omega) (by omega) (Or.inl hh6) (by omega)))))
              ·
                refine j_iload d_M_findPlacing_125 lg6 ?_
                refine j_iload d_M_findPlacing_127 lg4 ?_
                refine j_icmp_neN (tgt := 145) d_M_findPlacing_129 (by decide) (by omega) (by omega) (fun h_129 => ?_) (fun h_129 => ?_)
                ·
                  refine j_iconstN (k := 0) d_M_findPlacing_145 (by decide) ?_
                  refine j_istore d_M_findPlacing_146 ls9i ?_
                  refine j_iload d_M_findPlacing_148 lg9 ?_
                  refine j_if_eqN (tgt := 169) d_M_findPlacing_150 (by decide) (by omega) (fun _ => ?_) (fun h => absurd h (by decide))
                  refine j_iincN (k := 1) d_M_findPlacing_169 lg5 (by decide) ls5i ?_
                  refine j_goto (tgt := 31) d_M_findPlacing_172 (by decide) ?_
                  exact j_fg 6 (j_fg 7 (j_fg 8 (j_fg 9 (ih (i + 1) L k H (by omega) (q_pinv_keep hI (by show q_pick (V 201 4) (V 204) (q_wet (V 201 4) (V 207 19) ((1 <<< V 201 4 - 1) &&& (63 ^^^ (((1 <<< V 201 4 - 1) &&& (63 ^^^ q_brk (V 201 4) (M_str V 207) x)) ||| i)))) < 9999; omega) (by show ¬ (q_pick (V 201 4) (V 204) (q_wet (V 201 4) (V 207 19) ((1 <<< V 201 4 - 1) &&& (63 ^^^ (((1 <<< V 201 4 - 1) &&& (63 ^^^ q_brk (V 201 4) (M_str V 207) x)) ||| i)))) < L ∨ (q_pick (V 201 4) (V 204) (q_wet (V 201 4) (V 207 19) ((1 <<< V 201 4 - 1) &&& (63 ^^^ (((1 <<< V 201 4 - 1) &&& (63 ^^^ q_brk (V 201 4) (M_str V 207) x)) ||| i)))) = L ∧ (q_lack (V 201 4) (M_str V 207) i x < k ∨ (q_lack (V 201 4) (M_str V 207) i x = k ∧ ((1 <<< V 201 4 - 1) &&& (63 ^^^ q_brk (V 201 4) (M_str V 207) x)) ||| i < H)))); omega)) hL hk hHb (by omega)))))
                ·
                  refine j_iload d_M_findPlacing_132 lg7 ?_
                  refine j_aload_n (i := 0) d_M_findPlacing_134 rfl lg0 ?_
                  refine gf_M_140 d_M_findPlacing_135 ?_
                  refine j_eqv (b := H) (by rw [g_upS]) ?_
                  refine j_icmp_geN (tgt := 145) d_M_findPlacing_138 (by decide) (by omega) (by omega) (fun h_138 => ?_) (fun h_138 => ?_)
                  ·
                    refine j_iconstN (k := 0) d_M_findPlacing_145 (by decide) ?_
                    refine j_istore d_M_findPlacing_146 ls9i ?_
                    refine j_iload d_M_findPlacing_148 lg9 ?_
                    refine j_if_eqN (tgt := 169) d_M_findPlacing_150 (by decide) (by omega) (fun _ => ?_) (fun h => absurd h (by decide))
                    refine j_iincN (k := 1) d_M_findPlacing_169 lg5 (by decide) ls5i ?_
                    refine j_goto (tgt := 31) d_M_findPlacing_172 (by decide) ?_
                    exact j_fg 6 (j_fg 7 (j_fg 8 (j_fg 9 (ih (i + 1) L k H (by omega) (q_pinv_keep hI (by show q_pick (V 201 4) (V 204) (q_wet (V 201 4) (V 207 19) ((1 <<< V 201 4 - 1) &&& (63 ^^^ (((1 <<< V 201 4 - 1) &&& (63 ^^^ q_brk (V 201 4) (M_str V 207) x)) ||| i)))) < 9999; omega) (by show ¬ (q_pick (V 201 4) (V 204) (q_wet (V 201 4) (V 207 19) ((1 <<< V 201 4 - 1) &&& (63 ^^^ (((1 <<< V 201 4 - 1) &&& (63 ^^^ q_brk (V 201 4) (M_str V 207) x)) ||| i)))) < L ∨ (q_pick (V 201 4) (V 204) (q_wet (V 201 4) (V 207 19) ((1 <<< V 201 4 - 1) &&& (63 ^^^ (((1 <<< V 201 4 - 1) &&& (63 ^^^ q_brk (V 201 4) (M_str V 207) x)) ||| i)))) = L ∧ (q_lack (V 201 4) (M_str V 207) i x < k ∨ (q_lack (V 201 4) (M_str V 207) i x = k ∧ ((1 <<< V 201 4 - 1) &&& (63 ^^^ q_brk (V 201 4) (M_str V 207) x)) ||| i < H)))); omega)) hL hk hHb (by omega)))))
                  ·
                    refine j_iconstN (k := 1) d_M_findPlacing_141 (by decide) ?_
                    refine j_goto (tgt := 146) d_M_findPlacing_142 (by decide) ?_
                    refine j_istore d_M_findPlacing_146 ls9i ?_
                    refine j_iload d_M_findPlacing_148 lg9 ?_
                    refine j_if_eqN (tgt := 169) d_M_findPlacing_150 (by decide) (by omega) (fun h => absurd h (by decide)) (fun _ => ?_)
                    have hbet : q_pick (V 201 4) (V 204) (q_wet (V 201 4) (V 207 19) ((1 <<< V 201 4 - 1) &&& (63 ^^^ (((1 <<< V 201 4 - 1) &&& (63 ^^^ q_brk (V 201 4) (M_str V 207) x)) ||| i)))) < L ∨ (q_pick (V 201 4) (V 204) (q_wet (V 201 4) (V 207 19) ((1 <<< V 201 4 - 1) &&& (63 ^^^ (((1 <<< V 201 4 - 1) &&& (63 ^^^ q_brk (V 201 4) (M_str V 207) x)) ||| i)))) = L ∧ (q_lack (V 201 4) (M_str V 207) i x < k ∨ (q_lack (V 201 4) (M_str V 207) i x = k ∧ ((1 <<< V 201 4 - 1) &&& (63 ^^^ q_brk (V 201 4) (M_str V 207) x)) ||| i < H))) := by omega
                    refine j_aload_n (i := 0) d_M_findPlacing_153 rfl lg0 ?_
                    refine j_iload d_M_findPlacing_154 lg8 ?_
                    refine pf_M_137 d_M_findPlacing_156 ?_
                    refine j_iload d_M_findPlacing_159 lg6 ?_
                    refine j_istore d_M_findPlacing_161 ls4i ?_
                    refine j_aload_n (i := 0) d_M_findPlacing_163 rfl lg0 ?_
                    refine j_iload d_M_findPlacing_164 lg7 ?_
                    refine pf_M_140 d_M_findPlacing_166 ?_
                    refine j_iincN (k := 1) d_M_findPlacing_169 lg5 (by decide) ls5i ?_
                    refine j_goto (tgt := 31) d_M_findPlacing_172 (by decide) ?_
                    rw [g_up2 (by decide)]
                    have hnew := q_pinv_new hI ⟨h_55, h_61⟩ (hbet)
                    exact j_fg 6 (j_fg 7 (j_fg 8 (j_fg 9 (ih (i + 1) _ _ _ (by omega) hnew (by omega) (by omega) (Or.inl hh6) (by omega)))))
set_option maxRecDepth 4000 in
theorem c_M_findPlacing {G : g_G} (l : Launch) (V : g_V) (S : g_L) (hn : V 201 4 ≤ 6) (hK : M_K V) (hH : g_H V 207) (hd : V 207 19 < 64) (c x : Nat) (hc : c < 1000000) (hx : x ≤ 20) : g_C G l y_M_findPlacing b_M_findPlacing 10 none 3 [.ref (g_a G (201)), .int (nI (c)), .int (nI (x))] V S (fun r V' S' => r = none ∧ V' = g_up (g_up V 201 18 (D_lw (g_cv V) (D_best (g_cv V) x c))) 201 19 (D_best (g_cv V) x c) ∧ S' = S) := by
  refine g_C.of (lv := [some (.ref (g_a G (201))), some (.int (nI (c))), some (.int (nI (x))), none, none, none, none, none, none, none]) (by decide +kernel) rfl rfl rfl (Nat.le_of_ble_eq_true rfl) ?_
  refine j_aload_n (i := 0) d_M_findPlacing_0 rfl lg0 ?_
  refine j_aload_n (i := 0) d_M_findPlacing_1 rfl lg0 ?_
  refine gf_M_25 d_M_findPlacing_2 ?_
  refine j_iload_n (i := 2) d_M_findPlacing_5 rfl lg2 ?_
  refine cl_M_105 (c_M_breaksBy l V S (by omega) hK (207) (x) gI_207 hH (by omega)) d_M_findPlacing_6 rfl rfl (g_ftM (by decide)) (Nat.le_of_ble_eq_true rfl) (g_pu ?_)
  refine j_istore_n d_M_findPlacing_9 rfl ls3i ?_
  refine j_sipushN (k := 9999) d_M_findPlacing_10 (by decide) ?_
  refine j_istore d_M_findPlacing_13 ls4i ?_
  refine j_aload_n (i := 0) d_M_findPlacing_15 rfl lg0 ?_
  refine j_sipushN (k := 9999) d_M_findPlacing_16 (by decide) ?_
  refine pf_M_137 d_M_findPlacing_19 ?_
  refine j_aload_n (i := 0) d_M_findPlacing_22 rfl lg0 ?_
  refine j_bipush (v := -9) d_M_findPlacing_23 (by decide) ?_
  rw [show (-9 : Int32) = nI 4294967287 from rfl]
  refine pf_M_140 d_M_findPlacing_25 ?_
  refine j_iconstN (k := 0) d_M_findPlacing_28 (by decide) ?_
  refine j_istore d_M_findPlacing_29 ls5i ?_
  exact lp_M_findPlacing l V S hn hK hH hd c x hc hx _ 0 9999 9999 4294967287 (Nat.zero_le _) q_pinv_0 (by omega) (by omega) (Or.inr rfl) (Nat.lt_succ_self _)
