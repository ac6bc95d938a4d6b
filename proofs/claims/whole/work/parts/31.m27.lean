/-! The reference: payings. First the numbers: both tables hold the most parts that come to nothing. -/
theorem q_gt_old {z : Nat → Int32} {n : Nat} {t0 : Nat → Nat} {k j : Nat} (h : j < k) : q_gt z n t0 (k + 1) j = q_gt z n t0 k j := if_neg (by omega)
theorem q_gt_at {z : Nat → Int32} {n : Nat} {t0 : Nat → Nat} {j : Nat} : ∀ {k : Nat}, j < k → q_gt z n t0 k j = q_gv z n (q_gt z n t0 j) j
  | 0, h => absurd h (Nat.not_lt_zero _)
  | k + 1, h => by
    by_cases e : j = k
    · subst e; exact if_pos rfl
    · rw [q_gt_old (by omega)]; exact q_gt_at (by omega)
theorem q_mx_ext {t t' : Nat → Nat} {s n : Nat} (hs : s < 64) (hn : n ≤ 6) (h : ∀ j, j < s → t j = t' j) : ∀ i, i ≤ n → q_mx t s i = q_mx t' s i
  | 0, _ => rfl
  | i + 1, hi => by
    have ih := q_mx_ext hs hn h i (by omega)
    show (if _ then _ else _) = (if _ then _ else _)
    by_cases hb : s.testBit i = true
    · rw [if_pos hb, if_pos hb, ih, h _ (q_less hs (by omega) hb)]
    · rw [if_neg hb, if_neg hb, ih]
theorem q_gv_ext {z : Nat → Int32} {t t' : Nat → Nat} {s n : Nat} (hs : s < 64) (hn : n ≤ 6) (h : ∀ j, j < s → t j = t' j) : q_gv z n t s = q_gv z n t' s := by
  unfold q_gv
  rw [q_mx_ext hs hn h n (Nat.le_refl n)]
/-- the most sets that come to nothing, one within the other -/
def q_T (z : Nat → Int32) (n s : Nat) : Nat := q_gt z n (fun _ => 0) 64 s
theorem q_T_of {z : Nat → Int32} {n : Nat} {t0 : Nat → Nat} (hn : n ≤ 6) (s : Nat) : ∀ {k}, k ≤ 64 → s < k → q_gt z n t0 k s = q_T z n s := by
  induction s using Nat.strongRecOn with
  | ind s ih =>
    intro k hk hs
    unfold q_T
    rw [q_gt_at hs, q_gt_at (show s < 64 by omega)]
    refine q_gv_ext (by omega) hn (fun j hj => ?_)
    rw [ih j hj (by omega) hj, q_gt_at hj, ← q_gt_at (show j < 64 by omega)]
    rfl
theorem q_T_fix {z : Nat → Int32} {n s : Nat} (hn : n ≤ 6) (hs : s < 64) : q_T z n s = q_gv z n (q_T z n) s := by
  show q_gt z n (fun _ => 0) 64 s = _
  rw [q_gt_at hs]
  exact q_gv_ext hs hn (fun j hj => q_T_of hn j (by omega) hj)
theorem q_T_le {z : Nat → Int32} {n s : Nat} (hn : n ≤ 6) (hs : s < 64) : q_T z n s ≤ s := q_gt_le hn (Nat.le_refl 64) s hs
theorem q_mx_ge {t : Nat → Nat} {s i : Nat} (hb : s.testBit i = true) : ∀ {n : Nat}, i < n → t (s &&& (63 ^^^ 1 <<< i)) ≤ q_mx t s n
  | 0, h => absurd h (Nat.not_lt_zero _)
  | n + 1, h => by
    show _ ≤ (if _ then _ else _)
    by_cases e : i = n
    · subst e; rw [if_pos hb]; exact Nat.le_max_right _ _
    · have := q_mx_ge (t := t) hb (n := n) (by omega)
      split
      · exact Nat.le_trans this (Nat.le_max_left _ _)
      · exact this
theorem q_mx_at {t : Nat → Nat} {s : Nat} : ∀ {n : Nat}, q_mx t s n = 0 ∨ ∃ i, i < n ∧ s.testBit i = true ∧ q_mx t s n = t (s &&& (63 ^^^ 1 <<< i))
  | 0 => Or.inl rfl
  | n + 1 => by
    have ih := q_mx_at (t := t) (s := s) (n := n)
    by_cases hb : s.testBit n = true
    · rw [show q_mx t s (n + 1) = max (q_mx t s n) (t (s &&& (63 ^^^ 1 <<< n))) from if_pos hb]
      by_cases hl : q_mx t s n ≤ t (s &&& (63 ^^^ 1 <<< n))
      · exact Or.inr ⟨n, by omega, hb, Nat.max_eq_right hl⟩
      · rw [Nat.max_eq_left (by omega)]
        rcases ih with e | ⟨i, h1, h2, h3⟩
        · exact Or.inl e
        · exact Or.inr ⟨i, by omega, h2, h3⟩
    · rw [show q_mx t s (n + 1) = q_mx t s n from if_neg hb]
      rcases ih with e | ⟨i, h1, h2, h3⟩
      · exact Or.inl e
      · exact Or.inr ⟨i, by omega, h2, h3⟩
theorem q_T_mx {z : Nat → Int32} {n s : Nat} (hn : n ≤ 6) (hs : s < 64) : q_mx (q_T z n) s n ≤ q_T z n s := by
  rw [q_T_fix hn hs]
  unfold q_gv
  split <;> omega
theorem q_bits_up : ∀ s, s < 64 → ∀ a, a < 64 → a &&& s = a → a = s ∨ ∃ i, i < 6 ∧ s.testBit i = true ∧ a &&& (s &&& (63 ^^^ 1 <<< i)) = a := by decide +kernel
theorem q_bit_in {s n i : Nat} (hs : s < 1 <<< n) (h : s.testBit i = true) : i < n := by
  rcases Nat.lt_or_ge i n with q | q
  · exact q
  · rw [Nat.one_shiftLeft] at hs
    have := Nat.testBit_lt_two_pow (x := s) (i := i) (Nat.lt_of_lt_of_le hs (Nat.pow_le_pow_right (by decide) q))
    rw [this] at h; cases h
theorem q_sh6 {n : Nat} (hn : n ≤ 6) : 1 <<< n ≤ 64 := by
  rw [Nat.one_shiftLeft]
  show 2 ^ n ≤ 2 ^ 6
  exact Nat.pow_le_pow_right (by decide) hn
theorem q_T_mono {z : Nat → Int32} {n : Nat} (hn : n ≤ 6) (s : Nat) : s < 1 <<< n → ∀ a, a &&& s = a → q_T z n a ≤ q_T z n s := by
  induction s using Nat.strongRecOn with
  | ind s ih =>
    intro hs a ha
    have h6 := q_sh6 hn
    have ha6 : a < 64 := by
      have : a &&& s ≤ s := Nat.and_le_right
      omega
    rcases q_bits_up s (by omega) a ha6 ha with e | ⟨i, h1, h2, h3⟩
    · rw [e]; exact Nat.le_refl _
    · have hl := q_less (by omega) h1 h2
      have h4 := ih _ hl (by omega) a h3
      have h5 := q_mx_ge (t := q_T z n) h2 (q_bit_in hs h2)
      have h7 := q_T_mx (z := z) hn (show s < 64 by omega)
      omega
theorem q_T_0 {z : Nat → Int32} {n : Nat} (hn : n ≤ 6) : q_T z n 0 = 0 := by
  have := q_T_le (z := z) hn (show 0 < 64 by decide)
  omega
/-- a zero-sum set has one more than any of the rest beside a part -/
theorem q_T_zs {z : Nat → Int32} {n s : Nat} (hn : n ≤ 6) (hs : s < 64) (h0 : s ≠ 0) (hz : q_sz z s n = 0) : q_T z n s = q_mx (q_T z n) s n + 1 := by
  rw [q_T_fix hn hs]
  unfold q_gv
  rw [if_pos ⟨h0, hz⟩]
theorem q_bits_pt : ∀ s, s < 64 → ∀ q, q < 64 → 1 ≤ q → q &&& (63 ^^^ s) = 0 → ∃ i, i < 6 ∧ s.testBit i = true ∧ (s &&& (63 ^^^ q)) &&& (s &&& (63 ^^^ 1 <<< i)) = s &&& (63 ^^^ q) := by decide +kernel
theorem q_T_part {z : Nat → Int32} {n s q : Nat} (hn : n ≤ 6) (hs : s < 1 <<< n) (hz : q_sz z s n = 0) (hq1 : 1 ≤ q) (hq : q < 64) (hqs : q &&& (63 ^^^ s) = 0) (h0 : s ≠ 0) : q_T z n (s &&& (63 ^^^ q)) + 1 ≤ q_T z n s := by
  have h6 := q_sh6 hn
  obtain ⟨i, h1, h2, h3⟩ := q_bits_pt s (by omega) q hq hq1 hqs
  have hl := q_less (by omega) h1 h2
  have h4 := q_T_mono (z := z) hn _ (show s &&& (63 ^^^ 1 <<< i) < 1 <<< n by omega) _ h3
  have h5 := q_mx_ge (t := q_T z n) h2 (q_bit_in hs h2)
  rw [q_T_zs hn (by omega) h0 hz]
  omega
theorem q_bits_sub : ∀ s, s < 64 → ∀ a, a < 64 → a &&& s = a → (s &&& (63 ^^^ (s &&& (63 ^^^ a))) = a ∧ (s &&& (63 ^^^ a)) &&& (63 ^^^ s) = 0 ∧ s &&& (63 ^^^ a) ≤ s) ∧ (a < s → 1 ≤ s &&& (63 ^^^ a)) := by decide +kernel
theorem q_bits_tb : ∀ s, s < 64 → ∀ a, a < 64 → a &&& s = a → ∀ i, i < 6 → (s &&& (63 ^^^ a)).testBit i = (s.testBit i && !a.testBit i) ∧ (a.testBit i = true → s.testBit i = true) := by decide +kernel
theorem q_sz_add {z : Nat → Int32} {s a : Nat} (hs : s < 64) (ha : a < 64) (h : a &&& s = a) : ∀ {n : Nat}, n ≤ 6 → q_sz z s n = q_sz z a n + q_sz z (s &&& (63 ^^^ a)) n
  | 0, _ => (Int32.add_zero 0).symm
  | n + 1, hn => by
    have ih := q_sz_add (z := z) hs ha h (n := n) (by omega)
    obtain ⟨t1, t2⟩ := q_bits_tb s hs a ha h n (by omega)
    show (if _ then _ else _) = (if _ then _ else _) + (if _ then _ else _)
    rw [t1, ih]
    by_cases hsb : s.testBit n = true
    · by_cases hab : a.testBit n = true
      · rw [hsb, hab, if_pos rfl, if_pos rfl, if_neg (by decide), Int32.add_assoc, Int32.add_comm (q_sz z _ n) (z n), ← Int32.add_assoc]
      · rw [Bool.not_eq_true] at hab
        rw [hsb, hab, if_pos rfl, if_neg (by decide), if_pos (by decide), Int32.add_assoc]
    · have hab : ¬ a.testBit n = true := fun q => hsb (t2 q)
      rw [Bool.not_eq_true] at hab hsb
      rw [hsb, hab, if_neg (by decide), if_neg (by decide), if_neg (by decide)]
theorem q_add0 {x y : Int32} (h : x = 0) (hs : x + y = 0) : y = 0 := by rw [h, Int32.zero_add] at hs; exact hs
/-- what T says of a set is said of a zero-sum set within -/
theorem q_T_in {z : Nat → Int32} {n : Nat} (hn : n ≤ 6) (s : Nat) : s < 1 <<< n → q_T z n s = 0 ∨ ∃ a, a &&& s = a ∧ 1 ≤ a ∧ q_sz z a n = 0 ∧ q_T z n a = q_T z n s := by
  induction s using Nat.strongRecOn with
  | ind s ih =>
    intro hs
    have h6 := q_sh6 hn
    by_cases hz : s ≠ 0 ∧ q_sz z s n = 0
    · exact Or.inr ⟨s, Nat.and_self s, by omega, hz.2, rfl⟩
    · have e : q_T z n s = q_mx (q_T z n) s n := by
        rw [q_T_fix hn (by omega)]
        unfold q_gv
        rw [if_neg hz]
      rcases q_mx_at (t := q_T z n) (s := s) (n := n) with q | ⟨i, h1, h2, h3⟩
      · exact Or.inl (e.trans q)
      · have hl := q_less (by omega) (show i < 6 by omega) h2
        rcases ih _ hl (by omega) with q | ⟨a, g1, g2, g3, g4⟩
        · exact Or.inl (by rw [e, h3, q])
        · refine Or.inr ⟨a, ?_, g2, g3, by rw [e, h3, g4]⟩
          rw [← g1, Nat.and_assoc, Nat.and_assoc, Nat.and_comm _ s, ← Nat.and_assoc s s, Nat.and_self]
/-- some part leaves one less -/
theorem q_T_some {z : Nat → Int32} {n s : Nat} (hn : n ≤ 6) (hs : s < 1 <<< n) (h0 : s ≠ 0) (hz : q_sz z s n = 0) : ∃ q, 1 ≤ q ∧ q ≤ s ∧ q &&& (63 ^^^ s) = 0 ∧ q_sz z (s &&& (63 ^^^ q)) n = 0 ∧ q_sz z q n = 0 ∧ q_T z n s = q_T z n (s &&& (63 ^^^ q)) + 1 := by
  have h6 := q_sh6 hn
  have key : ∀ a, a &&& s = a → a < s → q_sz z a n = 0 → q_T z n s = q_T z n a + 1 → ∃ q, 1 ≤ q ∧ q ≤ s ∧ q &&& (63 ^^^ s) = 0 ∧ q_sz z (s &&& (63 ^^^ q)) n = 0 ∧ q_sz z q n = 0 ∧ q_T z n s = q_T z n (s &&& (63 ^^^ q)) + 1 := by
    intro a ha hlt haz hT
    obtain ⟨⟨b1, b2, b3⟩, b4⟩ := q_bits_sub s (by omega) a (by omega) ha
    refine ⟨s &&& (63 ^^^ a), b4 hlt, b3, b2, by rw [b1]; exact haz, ?_, by rw [b1]; exact hT⟩
    exact q_add0 haz ((q_sz_add (z := z) (by omega) (by omega) ha hn).symm.trans hz)
  have e := q_T_zs (z := z) hn (show s < 64 by omega) h0 hz
  have z0 : q_sz z 0 n = 0 := by
    have : ∀ k, q_sz z 0 k = 0 := fun k => by
      induction k with
      | zero => rfl
      | succ k ih => show (if _ then _ else _) = _; rw [Nat.zero_testBit, if_neg (by decide)]; exact ih
    exact this n
  rcases q_mx_at (t := q_T z n) (s := s) (n := n) with q | ⟨i, h1, h2, h3⟩
  · exact key 0 (Nat.zero_and s) (by omega) z0 (by rw [e, q, q_T_0 hn])
  · have hl := q_less (by omega) (show i < 6 by omega) h2
    rcases q_T_in (z := z) hn _ (show s &&& (63 ^^^ 1 <<< i) < 1 <<< n by omega) with q | ⟨a, g1, g2, g3, g4⟩
    · exact key 0 (Nat.zero_and s) (by omega) z0 (by rw [e, h3, q, q_T_0 hn])
    · have ha : a &&& s = a := by rw [← g1, Nat.and_assoc, Nat.and_assoc, Nat.and_comm _ s, ← Nat.and_assoc s s, Nat.and_self]
      have hle : a &&& (s &&& (63 ^^^ 1 <<< i)) ≤ s &&& (63 ^^^ 1 <<< i) := Nat.and_le_right
      exact key a ha (by omega) g3 (by rw [e, h3, g4])
def q_su (g : Nat → Int32) : Nat → Int32
  | 0 => 0
  | k + 1 => q_su g k + g k
theorem q_su_add {g h : Nat → Int32} : ∀ n, q_su (fun f => g f + h f) n = q_su g n + q_su h n
  | 0 => (Int32.add_zero 0).symm
  | n + 1 => by
    show q_su _ n + (g n + h n) = (q_su g n + g n) + (q_su h n + h n)
    rw [q_su_add n]
    ac_rfl
theorem q_su_0 {g : Nat → Int32} (h : ∀ k, g k = 0) : ∀ n, q_su g n = 0
  | 0 => rfl
  | n + 1 => by show q_su g n + g n = 0; rw [q_su_0 h n, h, Int32.add_zero]
theorem q_su_ext {g h : Nat → Int32} : ∀ n, (∀ k, k < n → g k = h k) → q_su g n = q_su h n
  | 0, _ => rfl
  | n + 1, e => by show q_su g n + g n = q_su h n + h n; rw [q_su_ext n (fun k hk => e k (by omega)), e n (by omega)]
theorem q_net_su {ow : Nat → Nat → Nat} {f : Nat} : ∀ m, q_net ow f m = q_su (fun k => nI (ow k f) - nI (ow f k)) m
  | 0 => rfl
  | m + 1 => by show q_net ow f m + _ = q_su _ m + _; rw [q_net_su m]
theorem q_anti {a b : Int32} : (a - b) + (b - a) = 0 := by grind
/-- what is owed comes to nothing over all -/
theorem q_net_0 {ow : Nat → Nat → Nat} : ∀ n, q_su (fun f => q_net ow f n) n = 0
  | 0 => rfl
  | n + 1 => by
    show q_su (fun f => q_net ow f n + (nI (ow n f) - nI (ow f n))) n + (q_net ow n n + (nI (ow n n) - nI (ow n n))) = 0
    rw [q_su_add, q_net_0 n, Int32.zero_add, q_net_su n, ← Int32.add_assoc, ← q_su_add, q_su_0 (fun k => q_anti), Int32.zero_add, Int32.sub_self]
theorem q_uns_tb {z : Nat → Int32} {n k : Nat} : (q_uns z n).testBit k = true ↔ k < n ∧ z k ≠ 0 := by
  unfold q_uns
  rw [q_or_tb]
  constructor
  · rintro ⟨i, h1, h2⟩
    by_cases hz : z i = 0
    · rw [if_pos hz] at h2; simp at h2
    · rw [if_neg hz, q_bit_tb] at h2
      subst h2
      exact ⟨h1, hz⟩
  · rintro ⟨h1, h2⟩
    exact ⟨k, h1, by rw [if_neg h2, q_bit_tb]⟩
theorem q_sz_uns {z : Nat → Int32} {n : Nat} : ∀ k, k ≤ n → q_sz z (q_uns z n) k = q_su z k
  | 0, _ => rfl
  | k + 1, h => by
    show (if _ then _ else _) = q_su z k + z k
    rw [q_sz_uns k (by omega)]
    by_cases hz : z k = 0
    · rw [if_neg (fun q => (q_uns_tb.mp q).2 hz), hz, Int32.add_zero]
    · rw [if_pos (q_uns_tb.mpr ⟨by omega, hz⟩)]
theorem M_z_0 {V : g_V} : q_sz (M_z V) (q_uns (M_z V) (V 201 4)) (V 201 4) = 0 := by
  rw [q_sz_uns _ (Nat.le_refl _)]
  exact q_net_0 (V 201 4)
/-- a place of the reference's table -/
def q_cg (z : Nat → Int32) (n j x : Nat) : Prop := (q_sz z j n = 0 → x = q_T z n j) ∧ (q_sz z j n ≠ 0 → x = 4294967287)
/-- the set s, parts up to p seen: the best so far -/
abbrev q_vp (z : Nat → Int32) (n s q : Nat) : Prop := 1 ≤ q ∧ q &&& (63 ^^^ s) = 0 ∧ q_sz z (s &&& (63 ^^^ q)) n = 0 ∧ q_sz z q n = 0
def q_ci (z : Nat → Int32) (n s p x : Nat) : Prop :=
  (s = 0 → x = 0) ∧ (q_sz z s n ≠ 0 → x = 4294967287) ∧
  (s ≠ 0 → q_sz z s n = 0 → (x = 4294967287 ∧ ∀ q, q < p → ¬ q_vp z n s q) ∨ ((∃ q, q < p ∧ q_vp z n s q ∧ x = q_T z n (s &&& (63 ^^^ q)) + 1) ∧ ∀ q, q < p → q_vp z n s q → q_T z n (s &&& (63 ^^^ q)) + 1 ≤ x))
theorem q_ci_end {z : Nat → Int32} {n s p x : Nat} (hn : n ≤ 6) (hs : s < 1 <<< n) (h : q_ci z n s p x) (hp : q_sz z s n = 0 → s < p) (hp64 : p ≤ 64) : q_cg z n s x := by
  obtain ⟨h1, h2, h3⟩ := h
  have h6 := q_sh6 hn
  refine ⟨fun hz => ?_, h2⟩
  by_cases h0 : s = 0
  · rw [h1 h0, h0, q_T_0 hn]
  · have hp := hp hz
    obtain ⟨q, g1, g2, g3, g4, g5, g6⟩ := q_T_some hn hs h0 hz
    rcases h3 h0 hz with ⟨_, k⟩ | ⟨⟨r, k1, k2, k3⟩, k⟩
    · exact absurd ⟨g1, g3, g4, g5⟩ (k q (by omega))
    · have a1 := k q (by omega) ⟨g1, g3, g4, g5⟩
      have hr : r < 64 := by omega
      have a2 := q_T_part (z := z) hn hs hz k2.1 hr k2.2.1 h0
      omega
theorem q_ci_keep {z : Nat → Int32} {n s p x : Nat} (h : q_ci z n s p x) (hk : q_vp z n s p → s ≠ 0 → q_sz z s n = 0 → x ≠ 4294967287 ∧ q_T z n (s &&& (63 ^^^ p)) + 1 ≤ x) : q_ci z n s (p + 1) x := by
  obtain ⟨h1, h2, h3⟩ := h
  refine ⟨h1, h2, fun h0 hz => ?_⟩
  rcases h3 h0 hz with ⟨k0, k⟩ | ⟨⟨r, k1, k2, k3⟩, k⟩
  · refine Or.inl ⟨k0, fun q hq hv => ?_⟩
    by_cases e : q = p
    · subst e; exact (hk hv h0 hz).1 k0
    · exact k q (by omega) hv
  · refine Or.inr ⟨⟨r, by omega, k2, k3⟩, fun q hq hv => ?_⟩
    by_cases e : q = p
    · subst e; exact (hk hv h0 hz).2
    · exact k q (by omega) hv
theorem q_ci_new {z : Nat → Int32} {n s p x : Nat} (h : q_ci z n s p x) (hv : q_vp z n s p) (h0 : s ≠ 0) (hz : q_sz z s n = 0) (hn : n ≤ 6) (hs6 : s < 64) (hx : x = 4294967287 ∨ x < q_T z n (s &&& (63 ^^^ p)) + 1) (hT : q_T z n (s &&& (63 ^^^ p)) < 64) : q_ci z n s (p + 1) (q_T z n (s &&& (63 ^^^ p)) + 1) := by
  obtain ⟨h1, h2, h3⟩ := h
  refine ⟨fun q => absurd q h0, fun q => absurd hz q, fun _ _ => Or.inr ⟨⟨p, by omega, hv, rfl⟩, fun q hq hvq => ?_⟩⟩
  by_cases e : q = p
  · subst e; exact Nat.le_refl _
  · rcases h3 h0 hz with ⟨k0, k⟩ | ⟨⟨r, k1, k2, k3⟩, k⟩
    · exact absurd hvq (k q (by omega))
    · have := k q (by omega) hvq
      have hl : s &&& (63 ^^^ r) ≤ s := Nat.and_le_left
      have := q_T_le (z := z) hn (show s &&& (63 ^^^ r) < 64 by omega)
      omega
theorem nI_9 : nI 4294967287 = -9 := by decide
theorem q_uns_lt2 {z : Nat → Int32} {n : Nat} : q_uns z n < 1 <<< n := by
  rw [Nat.one_shiftLeft]
  exact q_or_lt (m := n) (fun i hi => by
    show (if _ then _ else _) < _
    split
    · exact Nat.two_pow_pos n
    · exact q_bit_lt hi)
set_option maxRecDepth 4000 in
theorem lp_M_payings1 {G : g_G} (l : Launch) (V : g_V) (S : g_L) (hO : M_OK V) (s : Nat) (hs : s ≤ (q_uns (M_z V) (V 201 4))) (hout : (∀ W', (∀ c, c ≠ 213 → W' c = V c) → (∀ j, j < s + 1 → q_cg (M_z V) (V 201 4) j (W' 213 j)) → JW G (g_M G l 3 (some .int) (fun r V' S' => S' = S ∧ r = some (.int (nI (q_bc (q_uns (M_z V) (V 201 4))) - nI (q_T (M_z V) (V 201 4) (q_uns (M_z V) (V 201 4))))) ∧ ∀ c, c ≠ 213 → V' c = V c)) b_M_payings R_M 43 [some (.ref (g_a G (201))), some (.int (nI ((q_uns (M_z V) (V 201 4))))), some (.int (nI (s + 1))), none, none, none, none] [] W' S)) : ∀ (n : Nat) (p : Nat) (W : g_V), (∀ c, c ≠ 213 → W c = V c) → (∀ j, j < s → q_cg (M_z V) (V 201 4) j (W 213 j)) → (q_ci (M_z V) (V 201 4) s p (W 213 s)) → (1 ≤ p) → (p ≤ 64) → 64 - p < n → JW G (g_M G l 3 (some .int) (fun r V' S' => S' = S ∧ r = some (.int (nI (q_bc (q_uns (M_z V) (V 201 4))) - nI (q_T (M_z V) (V 201 4) (q_uns (M_z V) (V 201 4))))) ∧ ∀ c, c ≠ 213 → V' c = V c)) b_M_payings R_M 73 [some (.ref (g_a G (201))), some (.int (nI ((q_uns (M_z V) (V 201 4))))), some (.int (nI (s))), some (.int (q_sz (M_z V) s (V 201 4))), some (.int (nI (p))), none, none] [] W S := by
  intro n
  induction n with
  | zero => intro p W hW2 hT hc hp1 hp64 hm; exact absurd hm (Nat.not_lt_zero _)
  | succ n ih =>
    intro p W hW2 hT hc hp1 hp64 hm
    have h0 := hO.1.1
    have hn := hO.1.2.1
    have hK := hO.1.2.2.1
    have hX := hO.1.2.2.2.1
    have hA := hO.1.2.2.2.2
    have hH := hO.2.1
    have hW := hO.2.2.1
    have hsp := hO.2.2.2.1
    have hd := hO.2.2.2.2.1
    have htd := hO.2.2.2.2.2
    have hU := q_uns_lt2 (z := M_z V) (n := V 201 4)
    have h6 := q_sh6 hn
    have hW4 : W 201 4 = V 201 4 := by rw [hW2 201 (by decide)]
    have hWz : M_z W = M_z V := by funext f; unfold M_z M_ow; rw [hW2 207 (by decide), hW2 201 (by decide)]
    refine j_iload d_M_payings_73 lg4 ?_
    refine j_iload_n (i := 2) d_M_payings_75 rfl lg2 ?_
    refine j_icmp_gtN (tgt := 187) d_M_payings_76 (by decide) (by omega) (by omega) (fun h_76 => ?_) (fun h_76 => ?_)
    ·
      refine j_iincN (k := 1) d_M_payings_187 lg2 (by decide) ls2i ?_
      refine j_goto (tgt := 43) d_M_payings_190 (by decide) ?_
      have hcg := q_ci_end hn (by omega) hc (fun _ => by omega) hp64
      exact j_fg 3 (j_fg 4 (j_fg 5 (j_fg 6 (hout W hW2 (fun j hj => by
        by_cases e : j = s
        · subst e; exact hcg
        · exact hT j (by omega))))))
    ·
      refine j_iload_n (i := 3) d_M_payings_79 rfl lg3 ?_
      refine j_if_ne (tgt := 187) d_M_payings_80 (by decide) (fun h_80 => ?_) (fun h_80 => ?_)
      ·
        refine j_iincN (k := 1) d_M_payings_187 lg2 (by decide) ls2i ?_
        refine j_goto (tgt := 43) d_M_payings_190 (by decide) ?_
        have hcg := q_ci_end hn (by omega) hc (fun q => absurd q h_80) hp64
        exact j_fg 3 (j_fg 4 (j_fg 5 (j_fg 6 (hout W hW2 (fun j hj => by
          by_cases e : j = s
          · subst e; exact hcg
          · exact hT j (by omega))))))
      ·
        have hs0 : s ≠ 0 := by omega
        refine j_iload_n (i := 2) d_M_payings_83 rfl lg2 ?_
        refine j_iload d_M_payings_84 lg4 ?_
        refine j_iconst (v := -1) d_M_payings_86 (by decide) ?_
        refine j_ixor d_M_payings_87 ?_
        refine j_iand d_M_payings_88 ?_
        rw [g_not (by omega) (by omega)]
        have hle : s &&& (63 ^^^ p) ≤ s := Nat.and_le_left
        refine j_istore d_M_payings_89 ls5i ?_
        refine j_iload d_M_payings_91 lg4 ?_
        refine j_iload_n (i := 2) d_M_payings_93 rfl lg2 ?_
        refine j_iconst (v := -1) d_M_payings_94 (by decide) ?_
        refine j_ixor d_M_payings_95 ?_
        refine j_iand d_M_payings_96 ?_
        rw [g_not (by omega) (by omega)]
        have hle2 : p &&& (63 ^^^ s) ≤ p := Nat.and_le_left
        refine j_if_neN (tgt := 131) d_M_payings_97 (by decide) (by omega) (fun h_97 => ?_) (fun h_97 => ?_)
        ·
          refine j_iconstN (k := 0) d_M_payings_131 (by decide) ?_
          refine j_istore d_M_payings_132 ls6i ?_
          refine j_aload_n (i := 0) d_M_payings_134 rfl lg0 ?_
          refine gf_M_44 d_M_payings_135 ?_
          refine j_iload_n (i := 2) d_M_payings_138 rfl lg2 ?_
          refine j_iload d_M_payings_139 lg6 ?_
          refine j_if_eqN (tgt := 174) d_M_payings_141 (by decide) (by omega) (fun _ => ?_) (fun h => absurd h (by decide))
          refine j_aload_n (i := 0) d_M_payings_174 rfl lg0 ?_
          refine gf_M_44 d_M_payings_175 ?_
          refine j_iload_n (i := 2) d_M_payings_178 rfl lg2 ?_
          refine j_iald d_M_payings_179 gI_213 (by omega) ?_
          refine j_iast d_M_payings_180 gI_213 (by omega) ?_
          refine j_iincN (k := 1) d_M_payings_181 lg4 (by decide) ls4i ?_
          refine j_goto (tgt := 73) d_M_payings_184 (by decide) ?_
          rw [g_up_id (rfl : W 213 s = W 213 s)]
          exact j_fg 5 (j_fg 6 (ih (p + 1) _ hW2 hT (q_ci_keep hc (fun hv _ _ => by
            exfalso
            first
              | exact h_97 hv.2.1
              | (have h1 := q_bits_pt s (by omega) p (by omega) hv.1 hv.2.1; obtain ⟨i, i1, i2, i3⟩ := h1; have i4 := q_less (by omega) i1 i2; rw [h_103] at i3; have i5 : s &&& (s &&& (63 ^^^ 1 <<< i)) ≤ s &&& (63 ^^^ 1 <<< i) := Nat.and_le_right; omega)
              | (have hl := hT _ hlt; rw [hl.1 hv.2.2.1] at h_115; have h2 := congrArg Int32.toInt h_115; rw [nI_toInt (by omega), show (-9 : Int32).toInt = -9 from by decide] at h2; omega)
              | exact h_124 hv.2.2.2)) (by omega) (by omega) (by omega)))
        ·
          refine j_iload d_M_payings_100 lg5 ?_
          refine j_iload_n (i := 2) d_M_payings_102 rfl lg2 ?_
          refine j_icmp_eqN (tgt := 131) d_M_payings_103 (by decide) (by omega) (by omega) (fun h_103 => ?_) (fun h_103 => ?_)
          ·
            refine j_iconstN (k := 0) d_M_payings_131 (by decide) ?_
            refine j_istore d_M_payings_132 ls6i ?_
            refine j_aload_n (i := 0) d_M_payings_134 rfl lg0 ?_
            refine gf_M_44 d_M_payings_135 ?_
            refine j_iload_n (i := 2) d_M_payings_138 rfl lg2 ?_
            refine j_iload d_M_payings_139 lg6 ?_
            refine j_if_eqN (tgt := 174) d_M_payings_141 (by decide) (by omega) (fun _ => ?_) (fun h => absurd h (by decide))
            refine j_aload_n (i := 0) d_M_payings_174 rfl lg0 ?_
            refine gf_M_44 d_M_payings_175 ?_
            refine j_iload_n (i := 2) d_M_payings_178 rfl lg2 ?_
            refine j_iald d_M_payings_179 gI_213 (by omega) ?_
            refine j_iast d_M_payings_180 gI_213 (by omega) ?_
            refine j_iincN (k := 1) d_M_payings_181 lg4 (by decide) ls4i ?_
            refine j_goto (tgt := 73) d_M_payings_184 (by decide) ?_
            rw [g_up_id (rfl : W 213 s = W 213 s)]
            exact j_fg 5 (j_fg 6 (ih (p + 1) _ hW2 hT (q_ci_keep hc (fun hv _ _ => by
              exfalso
              first
                | exact h_97 hv.2.1
                | (have h1 := q_bits_pt s (by omega) p (by omega) hv.1 hv.2.1; obtain ⟨i, i1, i2, i3⟩ := h1; have i4 := q_less (by omega) i1 i2; rw [h_103] at i3; have i5 : s &&& (s &&& (63 ^^^ 1 <<< i)) ≤ s &&& (63 ^^^ 1 <<< i) := Nat.and_le_right; omega)
                | (have hl := hT _ hlt; rw [hl.1 hv.2.2.1] at h_115; have h2 := congrArg Int32.toInt h_115; rw [nI_toInt (by omega), show (-9 : Int32).toInt = -9 from by decide] at h2; omega)
                | exact h_124 hv.2.2.2)) (by omega) (by omega) (by omega)))
          ·
            have hlt : s &&& (63 ^^^ p) < s := by omega
            have hTl := q_T_le (z := M_z V) hn (show s &&& (63 ^^^ p) < 64 by omega)
            refine j_aload_n (i := 0) d_M_payings_106 rfl lg0 ?_
            refine gf_M_44 d_M_payings_107 ?_
            refine j_iload d_M_payings_110 lg5 ?_
            refine j_iald d_M_payings_112 gI_213 (by omega) ?_
            refine j_bipush (v := -9) d_M_payings_113 (by decide) ?_
            refine j_icmp_eq (tgt := 131) d_M_payings_115 (by decide) (fun h_115 => ?_) (fun h_115 => ?_)
            ·
              refine j_iconstN (k := 0) d_M_payings_131 (by decide) ?_
              refine j_istore d_M_payings_132 ls6i ?_
              refine j_aload_n (i := 0) d_M_payings_134 rfl lg0 ?_
              refine gf_M_44 d_M_payings_135 ?_
              refine j_iload_n (i := 2) d_M_payings_138 rfl lg2 ?_
              refine j_iload d_M_payings_139 lg6 ?_
              refine j_if_eqN (tgt := 174) d_M_payings_141 (by decide) (by omega) (fun _ => ?_) (fun h => absurd h (by decide))
              refine j_aload_n (i := 0) d_M_payings_174 rfl lg0 ?_
              refine gf_M_44 d_M_payings_175 ?_
              refine j_iload_n (i := 2) d_M_payings_178 rfl lg2 ?_
              refine j_iald d_M_payings_179 gI_213 (by omega) ?_
              refine j_iast d_M_payings_180 gI_213 (by omega) ?_
              refine j_iincN (k := 1) d_M_payings_181 lg4 (by decide) ls4i ?_
              refine j_goto (tgt := 73) d_M_payings_184 (by decide) ?_
              rw [g_up_id (rfl : W 213 s = W 213 s)]
              exact j_fg 5 (j_fg 6 (ih (p + 1) _ hW2 hT (q_ci_keep hc (fun hv _ _ => by
                exfalso
                first
                  | exact h_97 hv.2.1
                  | (have h1 := q_bits_pt s (by omega) p (by omega) hv.1 hv.2.1; obtain ⟨i, i1, i2, i3⟩ := h1; have i4 := q_less (by omega) i1 i2; rw [h_103] at i3; have i5 : s &&& (s &&& (63 ^^^ 1 <<< i)) ≤ s &&& (63 ^^^ 1 <<< i) := Nat.and_le_right; omega)
                  | (have hl := hT _ hlt; rw [hl.1 hv.2.2.1] at h_115; have h2 := congrArg Int32.toInt h_115; rw [nI_toInt (by omega), show (-9 : Int32).toInt = -9 from by decide] at h2; omega)
                  | exact h_124 hv.2.2.2)) (by omega) (by omega) (by omega)))
            ·
              have hl := hT _ hlt
              have hz1 : q_sz (M_z V) (s &&& (63 ^^^ p)) (V 201 4) = 0 := by
                by_cases e : q_sz (M_z V) (s &&& (63 ^^^ p)) (V 201 4) = 0
                · exact e
                · exact absurd (by rw [hl.2 e, nI_9]) h_115
              refine j_aload_n (i := 0) d_M_payings_118 rfl lg0 ?_
              refine j_iload d_M_payings_119 lg4 ?_
              refine cl_M_173 (c_M_sumOf l W S (by rw [hW4]; exact hn) (p) (by omega)) d_M_payings_121 rfl rfl (g_ftM (by decide)) (Nat.le_of_ble_eq_true rfl) (g_pu ?_)
              rw [hW4, hWz]
              refine j_if_ne (tgt := 131) d_M_payings_124 (by decide) (fun h_124 => ?_) (fun h_124 => ?_)
              ·
                refine j_iconstN (k := 0) d_M_payings_131 (by decide) ?_
                refine j_istore d_M_payings_132 ls6i ?_
                refine j_aload_n (i := 0) d_M_payings_134 rfl lg0 ?_
                refine gf_M_44 d_M_payings_135 ?_
                refine j_iload_n (i := 2) d_M_payings_138 rfl lg2 ?_
                refine j_iload d_M_payings_139 lg6 ?_
                refine j_if_eqN (tgt := 174) d_M_payings_141 (by decide) (by omega) (fun _ => ?_) (fun h => absurd h (by decide))
                refine j_aload_n (i := 0) d_M_payings_174 rfl lg0 ?_
                refine gf_M_44 d_M_payings_175 ?_
                refine j_iload_n (i := 2) d_M_payings_178 rfl lg2 ?_
                refine j_iald d_M_payings_179 gI_213 (by omega) ?_
                refine j_iast d_M_payings_180 gI_213 (by omega) ?_
                refine j_iincN (k := 1) d_M_payings_181 lg4 (by decide) ls4i ?_
                refine j_goto (tgt := 73) d_M_payings_184 (by decide) ?_
                rw [g_up_id (rfl : W 213 s = W 213 s)]
                exact j_fg 5 (j_fg 6 (ih (p + 1) _ hW2 hT (q_ci_keep hc (fun hv _ _ => by
                  exfalso
                  first
                    | exact h_97 hv.2.1
                    | (have h1 := q_bits_pt s (by omega) p (by omega) hv.1 hv.2.1; obtain ⟨i, i1, i2, i3⟩ := h1; have i4 := q_less (by omega) i1 i2; rw [h_103] at i3; have i5 : s &&& (s &&& (63 ^^^ 1 <<< i)) ≤ s &&& (63 ^^^ 1 <<< i) := Nat.and_le_right; omega)
                    | (have hl := hT _ hlt; rw [hl.1 hv.2.2.1] at h_115; have h2 := congrArg Int32.toInt h_115; rw [nI_toInt (by omega), show (-9 : Int32).toInt = -9 from by decide] at h2; omega)
                    | exact h_124 hv.2.2.2)) (by omega) (by omega) (by omega)))
              ·
                refine j_iconstN (k := 1) d_M_payings_127 (by decide) ?_
                refine j_goto (tgt := 132) d_M_payings_128 (by decide) ?_
                refine j_istore d_M_payings_132 ls6i ?_
                refine j_aload_n (i := 0) d_M_payings_134 rfl lg0 ?_
                refine gf_M_44 d_M_payings_135 ?_
                refine j_iload_n (i := 2) d_M_payings_138 rfl lg2 ?_
                refine j_iload d_M_payings_139 lg6 ?_
                refine j_if_eqN (tgt := 174) d_M_payings_141 (by decide) (by omega) (fun h => absurd h (by decide)) (fun _ => ?_)
                refine j_aload_n (i := 0) d_M_payings_144 rfl lg0 ?_
                refine gf_M_44 d_M_payings_145 ?_
                refine j_iload d_M_payings_148 lg5 ?_
                refine j_iald d_M_payings_150 gI_213 (by omega) ?_
                refine j_iconstN (k := 1) d_M_payings_151 (by decide) ?_
                refine j_iaddN d_M_payings_152 ?_
                refine j_aload_n (i := 0) d_M_payings_153 rfl lg0 ?_
                refine gf_M_44 d_M_payings_154 ?_
                refine j_iload_n (i := 2) d_M_payings_157 rfl lg2 ?_
                refine j_iald d_M_payings_158 gI_213 (by omega) ?_
                refine j_icmp_le (tgt := 174) d_M_payings_159 (by decide) (fun h_159 => ?_) (fun h_159 => ?_)
                ·
                  refine j_aload_n (i := 0) d_M_payings_174 rfl lg0 ?_
                  refine gf_M_44 d_M_payings_175 ?_
                  refine j_iload_n (i := 2) d_M_payings_178 rfl lg2 ?_
                  refine j_iald d_M_payings_179 gI_213 (by omega) ?_
                  refine j_iast d_M_payings_180 gI_213 (by omega) ?_
                  refine j_iincN (k := 1) d_M_payings_181 lg4 (by decide) ls4i ?_
                  refine j_goto (tgt := 73) d_M_payings_184 (by decide) ?_
                  rw [g_up_id (rfl : W 213 s = W 213 s)]
                  exact j_fg 5 (j_fg 6 (ih (p + 1) _ hW2 hT (q_ci_keep hc (fun hv _ _ => by
                    rcases hc.2.2 hs0 h_80 with ⟨k0, k⟩ | ⟨⟨r, k1, k2, k3⟩, k⟩
                    · rw [k0, nI_9, hl.1 hz1, Int32.le_iff_toInt_le, nI_toInt (by omega), show (-9 : Int32).toInt = -9 from by decide] at h_159
                      omega
                    · have hr := q_T_part (z := M_z V) hn (show s < 1 <<< V 201 4 by omega) h_80 k2.1 (by omega) k2.2.1 hs0
                      have hsT := q_T_le (z := M_z V) hn (show s < 64 by omega)
                      rw [hl.1 hz1, Int32.le_iff_toInt_le, nI_toInt (by omega), nI_toInt (by omega)] at h_159
                      exact ⟨by omega, by omega⟩)) (by omega) (by omega) (by omega)))
                ·
                  refine j_aload_n (i := 0) d_M_payings_162 rfl lg0 ?_
                  refine gf_M_44 d_M_payings_163 ?_
                  refine j_iload d_M_payings_166 lg5 ?_
                  refine j_iald d_M_payings_168 gI_213 (by omega) ?_
                  refine j_iconstN (k := 1) d_M_payings_169 (by decide) ?_
                  refine j_iaddN d_M_payings_170 ?_
                  refine j_goto (tgt := 180) d_M_payings_171 (by decide) ?_
                  refine j_iast d_M_payings_180 gI_213 (by omega) ?_
                  refine j_iincN (k := 1) d_M_payings_181 lg4 (by decide) ls4i ?_
                  refine j_goto (tgt := 73) d_M_payings_184 (by decide) ?_
                  have hst : (g_up W 213 s ((W 213 (s &&& (63 ^^^ p))) + 1)) = g_up W 213 s (q_T (M_z V) (V 201 4) (s &&& (63 ^^^ p)) + 1) := by rw [hl.1 hz1]
                  rw [hst]
                  refine j_fg 5 (j_fg 6 (ih (p + 1) _ (fun c hc2 => (g_up_ne hc2).trans (hW2 c hc2)) (fun j hj => by rw [g_upK (by omega)]; exact hT j hj) ?_ (by omega) (by omega) (by omega)))
                  rw [g_upS]
                  have hx : W 213 s = 4294967287 ∨ W 213 s < q_T (M_z V) (V 201 4) (s &&& (63 ^^^ p)) + 1 := by
                    rcases hc.2.2 hs0 h_80 with ⟨k0, k⟩ | ⟨⟨r, k1, k2, k3⟩, k⟩
                    · exact Or.inl k0
                    · refine Or.inr ?_
                      have hr := q_T_part (z := M_z V) hn (show s < 1 <<< V 201 4 by omega) h_80 k2.1 (by omega) k2.2.1 hs0
                      have hsT := q_T_le (z := M_z V) hn (show s < 64 by omega)
                      rw [hl.1 hz1, Int32.le_iff_toInt_le, nI_toInt (by omega), nI_toInt (by omega)] at h_159
                      omega
                  exact q_ci_new hc ⟨hp1, h_97, hz1, h_124⟩ hs0 h_80 hn (by omega) hx (by omega)
theorem q_sz_0 {z : Nat → Int32} : ∀ k, q_sz z 0 k = 0
  | 0 => rfl
  | k + 1 => by show (if _ then _ else _) = _; rw [Nat.zero_testBit, if_neg (by decide)]; exact q_sz_0 k
theorem q_ci_0 {z : Nat → Int32} {n : Nat} : q_ci z n 0 1 0 := ⟨fun _ => rfl, fun q => absurd (q_sz_0 n) q, fun q => absurd rfl q⟩
theorem q_ci_1 {z : Nat → Int32} {n s : Nat} (h : s ≠ 0) : q_ci z n s 1 4294967287 := ⟨fun q => absurd q h, fun _ => rfl, fun _ _ => Or.inl ⟨rfl, fun q hq hv => by have := hv.1; omega⟩⟩
set_option maxRecDepth 4000 in
theorem lp_M_payings {G : g_G} (l : Launch) (V : g_V) (S : g_L) (hO : M_OK V) : ∀ (n : Nat) (s : Nat) (W : g_V), (∀ c, c ≠ 213 → W c = V c) → (∀ j, j < s → q_cg (M_z V) (V 201 4) j (W 213 j)) → (s ≤ (q_uns (M_z V) (V 201 4)) + 1) → (q_uns (M_z V) (V 201 4)) + 1 - s < n → JW G (g_M G l 3 (some .int) (fun r V' S' => S' = S ∧ r = some (.int (nI (q_bc (q_uns (M_z V) (V 201 4))) - nI (q_T (M_z V) (V 201 4) (q_uns (M_z V) (V 201 4))))) ∧ ∀ c, c ≠ 213 → V' c = V c)) b_M_payings R_M 43 [some (.ref (g_a G (201))), some (.int (nI ((q_uns (M_z V) (V 201 4))))), some (.int (nI (s))), none, none, none, none] [] W S := by
  intro n
  induction n with
  | zero => intro s W hW2 hT hs hm; exact absurd hm (Nat.not_lt_zero _)
  | succ n ih =>
    intro s W hW2 hT hs hm
    have h0 := hO.1.1
    have hn := hO.1.2.1
    have hK := hO.1.2.2.1
    have hX := hO.1.2.2.2.1
    have hA := hO.1.2.2.2.2
    have hH := hO.2.1
    have hW := hO.2.2.1
    have hsp := hO.2.2.2.1
    have hd := hO.2.2.2.2.1
    have htd := hO.2.2.2.2.2
    have hU := q_uns_lt2 (z := M_z V) (n := V 201 4)
    have h6 := q_sh6 hn
    have hW4 : W 201 4 = V 201 4 := by rw [hW2 201 (by decide)]
    have hWz : M_z W = M_z V := by funext f; unfold M_z M_ow; rw [hW2 207 (by decide), hW2 201 (by decide)]
    refine j_iload_n (i := 2) d_M_payings_43 rfl lg2 ?_
    refine j_iload_n (i := 1) d_M_payings_44 rfl lg1 ?_
    refine j_icmp_gtN (tgt := 193) d_M_payings_45 (by decide) (by omega) (by omega) (fun h_45 => ?_) (fun h_45 => ?_)
    ·
      refine j_iload_n (i := 1) d_M_payings_193 rfl lg1 ?_
      refine cl_M_176 (c_M_many l W S ((q_uns (M_z V) (V 201 4))) (by omega)) d_M_payings_194 rfl rfl (g_ftM (by decide)) (Nat.le_of_ble_eq_true rfl) (g_pu ?_)
      refine j_aload_n (i := 0) d_M_payings_197 rfl lg0 ?_
      refine gf_M_44 d_M_payings_198 ?_
      refine j_iload_n (i := 1) d_M_payings_201 rfl lg1 ?_
      refine j_iald d_M_payings_202 gI_213 (by omega) ?_
      rw [(hT (q_uns (M_z V) (V 201 4)) (by omega)).1 M_z_0]
      refine j_isub d_M_payings_203 ?_
      refine j_iret d_M_payings_204 ⟨rfl, rfl, hW2⟩
    ·
      refine j_aload_n (i := 0) d_M_payings_48 rfl lg0 ?_
      refine gf_M_44 d_M_payings_49 ?_
      refine j_iload_n (i := 2) d_M_payings_52 rfl lg2 ?_
      refine j_iload_n (i := 2) d_M_payings_53 rfl lg2 ?_
      refine j_if_neN (tgt := 61) d_M_payings_54 (by decide) (by omega) (fun h_54 => ?_) (fun h_54 => ?_)
      ·
        refine j_bipush (v := -9) d_M_payings_61 (by decide) ?_
        rw [← nI_9]
        refine j_iast d_M_payings_63 gI_213 (by omega) ?_
        have hV4 : (g_up W 213 s 4294967287) 201 4 = V 201 4 := by rw [g_up_ne (by decide), hW2 201 (by decide)]
        have hVz : M_z (g_up W 213 s 4294967287) = M_z V := by funext f; unfold M_z M_ow; rw [g_up_ne (by decide), hW2 207 (by decide), g_up_ne (by decide), hW2 201 (by decide)]
        refine j_aload_n (i := 0) d_M_payings_64 rfl lg0 ?_
        refine j_iload_n (i := 2) d_M_payings_65 rfl lg2 ?_
        refine cl_M_173 (c_M_sumOf l (g_up W 213 s 4294967287) S (by rw [hV4]; exact hn) (s) (by omega)) d_M_payings_66 rfl rfl (g_ftM (by decide)) (Nat.le_of_ble_eq_true rfl) (g_pu ?_)
        rw [hV4, hVz]
        refine j_istore_n d_M_payings_69 rfl ls3i ?_
        refine j_iconstN (k := 1) d_M_payings_70 (by decide) ?_
        refine j_istore d_M_payings_71 ls4i ?_
        refine lp_M_payings1 l V S hO s (by omega) (fun W2 hV2 hT2 => ?_) _ 1 (g_up W 213 s 4294967287) (fun c hc2 => (g_up_ne hc2).trans (hW2 c hc2)) (fun j hj => by rw [g_upK (by omega)]; exact hT j hj) ?_ (by decide) (by decide) (Nat.lt_succ_self _)
        · exact ih (s + 1) W2 hV2 hT2 (by omega) (by omega)
        · rw [g_upS]
          exact q_ci_1 h_54
      ·
        refine j_iconstN (k := 0) d_M_payings_57 (by decide) ?_
        refine j_goto (tgt := 63) d_M_payings_58 (by decide) ?_
        refine j_iast d_M_payings_63 gI_213 (by omega) ?_
        have hV4 : (g_up W 213 s 0) 201 4 = V 201 4 := by rw [g_up_ne (by decide), hW2 201 (by decide)]
        have hVz : M_z (g_up W 213 s 0) = M_z V := by funext f; unfold M_z M_ow; rw [g_up_ne (by decide), hW2 207 (by decide), g_up_ne (by decide), hW2 201 (by decide)]
        refine j_aload_n (i := 0) d_M_payings_64 rfl lg0 ?_
        refine j_iload_n (i := 2) d_M_payings_65 rfl lg2 ?_
        refine cl_M_173 (c_M_sumOf l (g_up W 213 s 0) S (by rw [hV4]; exact hn) (s) (by omega)) d_M_payings_66 rfl rfl (g_ftM (by decide)) (Nat.le_of_ble_eq_true rfl) (g_pu ?_)
        rw [hV4, hVz]
        refine j_istore_n d_M_payings_69 rfl ls3i ?_
        refine j_iconstN (k := 1) d_M_payings_70 (by decide) ?_
        refine j_istore d_M_payings_71 ls4i ?_
        refine lp_M_payings1 l V S hO s (by omega) (fun W2 hV2 hT2 => ?_) _ 1 (g_up W 213 s 0) (fun c hc2 => (g_up_ne hc2).trans (hW2 c hc2)) (fun j hj => by rw [g_upK (by omega)]; exact hT j hj) ?_ (by decide) (by decide) (Nat.lt_succ_self _)
        · exact ih (s + 1) W2 hV2 hT2 (by omega) (by omega)
        · rw [g_upS, h_54]
          exact q_ci_0
set_option maxRecDepth 4000 in
theorem lp_M_payings0 {G : g_G} (l : Launch) (V : g_V) (S : g_L) (hO : M_OK V) : ∀ (n : Nat) (i b : Nat), (i ≤ V 201 4) → (b = q_or i (fun i => if M_z V i = 0 then 0 else 1 <<< i)) → V 201 4 - i < n → JW G (g_M G l 3 (some .int) (fun r V' S' => S' = S ∧ r = some (.int (nI (q_bc (q_uns (M_z V) (V 201 4))) - nI (q_T (M_z V) (V 201 4) (q_uns (M_z V) (V 201 4))))) ∧ ∀ c, c ≠ 213 → V' c = V c)) b_M_payings R_M 9 [some (.ref (g_a G (201))), some (.int (nI (b))), some (.int (nI (i))), none, none, none, none] [] V S := by
  intro n
  induction n with
  | zero => intro i b hi hb hm; exact absurd hm (Nat.not_lt_zero _)
  | succ n ih =>
    intro i b hi hb hm
    have h0 := hO.1.1
    have hn := hO.1.2.1
    have hK := hO.1.2.2.1
    have hX := hO.1.2.2.2.1
    have hA := hO.1.2.2.2.2
    have hH := hO.2.1
    have hW := hO.2.2.1
    have hsp := hO.2.2.2.1
    have hd := hO.2.2.2.2.1
    have htd := hO.2.2.2.2.2
    have hU := q_uns_lt2 (z := M_z V) (n := V 201 4)
    have h6 := q_sh6 hn
    refine j_iload_n (i := 2) d_M_payings_9 rfl lg2 ?_
    refine j_aload_n (i := 0) d_M_payings_10 rfl lg0 ?_
    refine gf_M_51 d_M_payings_11 ?_
    refine j_icmp_geN (tgt := 41) d_M_payings_14 (by decide) (by omega) (by omega) (fun h_14 => ?_) (fun h_14 => ?_)
    ·
      refine j_iconstN (k := 0) d_M_payings_41 (by decide) ?_
      refine j_istore_n d_M_payings_42 rfl ls2i ?_
      have hbu : b = (q_uns (M_z V) (V 201 4)) := by rw [hb, show i = V 201 4 by omega]; rfl
      rw [hbu]
      exact lp_M_payings l V S hO _ 0 V (fun _ _ => rfl) (fun j hj => absurd hj (Nat.not_lt_zero j)) (Nat.zero_le _) (Nat.lt_succ_self _)
    ·
      refine j_iload_n (i := 1) d_M_payings_17 rfl lg1 ?_
      refine j_aload_n (i := 0) d_M_payings_18 rfl lg0 ?_
      refine j_iload_n (i := 2) d_M_payings_19 rfl lg2 ?_
      refine cl_M_170 (c_M_netOf l V S (by omega) (i) (by omega)) d_M_payings_20 rfl rfl (g_ftM (by decide)) (Nat.le_of_ble_eq_true rfl) (g_pu ?_)
      refine j_if_eq (tgt := 32) d_M_payings_23 (by decide) (fun h_23 => ?_) (fun h_23 => ?_)
      ·
        refine j_iconstN (k := 0) d_M_payings_32 (by decide) ?_
        refine j_iorN d_M_payings_33 ?_
        refine j_istore_n d_M_payings_34 rfl ls1r ?_
        refine j_iincN (k := 1) d_M_payings_35 lg2 (by decide) ls2i ?_
        refine j_goto (tgt := 9) d_M_payings_38 (by decide) ?_
        exact ih (i + 1) _ (by omega) (by rw [hb]; show _ = q_or i _ ||| (if _ then _ else _); rw [if_pos h_23]) (by omega)
      ·
        refine j_iconstN (k := 1) d_M_payings_26 (by decide) ?_
        refine j_iload_n (i := 2) d_M_payings_27 rfl lg2 ?_
        refine j_ishlN d_M_payings_28 (by omega) ?_
        refine j_goto (tgt := 33) d_M_payings_29 (by decide) ?_
        refine j_iorN d_M_payings_33 ?_
        refine j_istore_n d_M_payings_34 rfl ls1r ?_
        refine j_iincN (k := 1) d_M_payings_35 lg2 (by decide) ls2i ?_
        refine j_goto (tgt := 9) d_M_payings_38 (by decide) ?_
        exact ih (i + 1) _ (by omega) (by rw [hb]; show _ = q_or i _ ||| (if _ then _ else _); rw [if_neg h_23]) (by omega)
set_option maxRecDepth 4000 in
theorem c_M_payings {G : g_G} (l : Launch) (V : g_V) (S : g_L) (hO : M_OK V) : g_C G l y_M_payings b_M_payings 7 (some .int) 3 [.ref (g_a G (201))] V S (fun r V' S' => S' = S ∧ r = some (.int (nI (q_bc (q_uns (M_z V) (V 201 4))) - nI (q_T (M_z V) (V 201 4) (q_uns (M_z V) (V 201 4))))) ∧ ∀ c, c ≠ 213 → V' c = V c) := by
  refine g_C.of (lv := [some (.ref (g_a G (201))), none, none, none, none, none, none]) (by decide +kernel) rfl rfl rfl (Nat.le_of_ble_eq_true rfl) ?_
  have h0 := hO.1.1
  have hn := hO.1.2.1
  have hK := hO.1.2.2.1
  have hX := hO.1.2.2.2.1
  have hA := hO.1.2.2.2.2
  have hH := hO.2.1
  have hW := hO.2.2.1
  have hsp := hO.2.2.2.1
  have hd := hO.2.2.2.2.1
  have htd := hO.2.2.2.2.2
  refine j_aload_n (i := 0) d_M_payings_0 rfl lg0 ?_
  refine j_iconstN (k := 0) d_M_payings_1 (by decide) ?_
  refine pf_M_47 d_M_payings_2 ?_
  rw [g_up_id h0]
  refine j_iconstN (k := 0) d_M_payings_5 (by decide) ?_
  refine j_istore_n d_M_payings_6 rfl ls1r ?_
  refine j_iconstN (k := 0) d_M_payings_7 (by decide) ?_
  refine j_istore_n d_M_payings_8 rfl ls2i ?_
  exact lp_M_payings0 l V S hO _ 0 0 (Nat.zero_le _) rfl (Nat.lt_succ_self _)
