/-! Small tools for the walks: truth values, int arrays by their cells, pure answers; the words of the contracts. -/
def g_z (b : Bool) : Nat := if b then 1 else 0
theorem g_zt {c : Prop} {i : Decidable c} (h : c) : g_z (decide c) = 1 := by rw [decide_eq_true h]; rfl
theorem g_zf {c : Prop} {i : Decidable c} (h : ¬ c) : g_z (decide c) = 0 := by rw [decide_eq_false h]; rfl
theorem g_z1 {c : Prop} {i : Decidable c} (h : c) : some (Value.int (nI 1)) = some (.int (nI (g_z (decide c)))) := by rw [g_zt h]
theorem g_z0 {c : Prop} {i : Decidable c} (h : ¬ c) : some (Value.int (nI 0)) = some (.int (nI (g_z (decide c)))) := by rw [g_zf h]
theorem g_zn {b : Bool} : narrow .boolean (.int (nI (g_z b))) = .int (nI (g_z b)) := by cases b <;> decide
theorem g_zlt (b : Bool) : g_z b < 2 ^ 31 := by cases b <;> decide
section TLS
variable {G : g_G} {X : g_X} {cc : ByteArray} {own : String} {pc : Nat} {lv : List (Option Value)} {st : List Value} {V : g_V} {S : g_L}
theorem g_pu {v : Value} (k : JW G X cc own pc lv (v :: st) V S) : ∀ (r : Option Value) (V' : g_V) (S' : g_L), (r = some v ∧ V' = V ∧ S' = S) → JW G X cc own pc lv (r.toList ++ st) V' S' := by
  rintro _ _ _ ⟨rfl, rfl, rfl⟩
  exact k
theorem j_if_eqB {c : Prop} {i : Decidable c} {off : Int} {tgt : Nat} (hd : decode cc pc = .ok (.ifCond .eq off, 3)) (ht : (pc : Int) + off = (tgt : Int)) (kt : ¬ c → JW G X cc own tgt lv st V S) (kf : c → JW G X cc own (pc + 3) lv st V S) : JW G X cc own pc lv (.int (nI (g_z (decide c))) :: st) V S := by
  by_cases h : c
  · rw [g_zt h]
    exact j_if_eqN hd ht (by decide) (fun q => absurd q (by decide)) (fun _ => kf h)
  · rw [g_zf h]
    exact j_if_eqN hd ht (by decide) (fun _ => kt h) (fun q => absurd rfl q)
theorem j_if_neB {c : Prop} {i : Decidable c} {off : Int} {tgt : Nat} (hd : decode cc pc = .ok (.ifCond .ne off, 3)) (ht : (pc : Int) + off = (tgt : Int)) (kt : c → JW G X cc own tgt lv st V S) (kf : ¬ c → JW G X cc own (pc + 3) lv st V S) : JW G X cc own pc lv (.int (nI (g_z (decide c))) :: st) V S := by
  by_cases h : c
  · rw [g_zt h]
    exact j_if_neN hd ht (by decide) (fun _ => kt h) (fun q => absurd q (by decide))
  · rw [g_zf h]
    exact j_if_neN hd ht (by decide) (fun q => absurd rfl q) (fun _ => kf h)
theorem nI_self (x : Int32) : x = nI x.toBitVec.toNat := by
  apply Int32.toBitVec_inj.1
  show x.toBitVec = BitVec.ofNat 32 x.toBitVec.toNat
  simp
theorem j_iast_raw {cl n : Nat} {i : Nat} {x : Int32} (hd : decode cc pc = .ok (.iastore, 1)) (hc : g_I cl n) (hi : i < n) (kk : JW G X cc own (pc + 1) lv st (g_up V cl i x.toBitVec.toNat) S) : JW G X cc own pc lv (.int x :: .int (nI i) :: .ref (g_a G cl) :: st) V S := by
  have e := nI_self x
  generalize x.toBitVec.toNat = k at e kk
  subst e
  exact j_iast hd hc hi kk
end TLS
theorem nI_inj {a b : Nat} (ha : a < 2 ^ 32) (hb : b < 2 ^ 32) (h : nI a = nI b) : a = b := by
  have e : (BitVec.ofNat 32 a).toNat = (BitVec.ofNat 32 b).toNat := congrArg (fun x : Int32 => x.toBitVec.toNat) h
  rw [BitVec.toNat_ofNat, BitVec.toNat_ofNat, Nat.mod_eq_of_lt ha, Nat.mod_eq_of_lt hb] at e
  exact e
theorem g_upS {V : g_V} {c k x : Nat} : g_up V c k x c k = x := if_pos ⟨rfl, rfl⟩
theorem g_upK {V : g_V} {c k x k' : Nat} (h : k' ≠ k) : g_up V c k x c k' = V c k' := if_neg (fun q => h q.2)
theorem g_upN {V : g_V} {c k x c' k' : Nat} (h : c' ≠ c) : g_up V c k x c' k' = V c' k' := if_neg (fun q => h q.1)
/-- x names one of n things -/
abbrev q_in (x : Int32) (n : Nat) : Prop := 0 ≤ x.toInt ∧ x.toInt < (n : Int)
theorem q_in_nI {k n : Nat} (hk : k < 2 ^ 31) : q_in (nI k) n ↔ k < n := by
  unfold q_in; rw [nI_toInt hk]; omega
theorem q_in_of {x : Int32} {n : Nat} (h : q_in x n) (hn : n < 2 ^ 31) : ∃ k : Nat, k < n ∧ x = nI k := by
  obtain ⟨h1, h2⟩ := h
  refine ⟨x.toInt.toNat, by omega, Int32.toInt_inj.mp ?_⟩
  rw [nI_toInt (by omega)]
  omega
theorem gI_2 : g_I 2 48 := ⟨by decide, by decide, fun _ _ _ => rfl⟩
theorem gI_3 : g_I 3 6 := ⟨by decide, by decide, fun _ _ _ => rfl⟩
theorem gI_4 : g_I 4 6 := ⟨by decide, by decide, fun _ _ _ => rfl⟩
theorem gI_5 : g_I 5 6 := ⟨by decide, by decide, fun _ _ _ => rfl⟩
theorem gI_8 : g_I 8 6 := ⟨by decide, by decide, fun _ _ _ => rfl⟩
theorem gI_9 : g_I 9 5 := ⟨by decide, by decide, fun _ _ _ => rfl⟩
theorem gI_10 : g_I 10 7 := ⟨by decide, by decide, fun _ _ _ => rfl⟩
theorem gI_11 : g_I 11 64 := ⟨by decide, by decide, fun _ _ _ => rfl⟩
theorem gI_12 : g_I 12 64 := ⟨by decide, by decide, fun _ _ _ => rfl⟩
theorem gI_13 : g_I 13 64 := ⟨by decide, by decide, fun _ _ _ => rfl⟩
theorem gI_202 : g_I 202 48 := ⟨by decide, by decide, fun _ _ _ => rfl⟩
theorem gI_203 : g_I 203 6 := ⟨by decide, by decide, fun _ _ _ => rfl⟩
theorem gI_204 : g_I 204 6 := ⟨by decide, by decide, fun _ _ _ => rfl⟩
theorem gI_205 : g_I 205 6 := ⟨by decide, by decide, fun _ _ _ => rfl⟩
theorem gI_206 : g_I 206 30 := ⟨by decide, by decide, fun _ _ _ => rfl⟩
theorem gI_207 : g_I 207 57 := ⟨by decide, by decide, fun _ _ _ => rfl⟩
theorem gI_208 : g_I 208 57 := ⟨by decide, by decide, fun _ _ _ => rfl⟩
theorem gI_209 : g_I 209 798 := ⟨by decide, by decide, fun _ _ _ => rfl⟩
theorem gI_210 : g_I 210 114 := ⟨by decide, by decide, fun _ _ _ => rfl⟩
theorem gI_212 : g_I 212 64 := ⟨by decide, by decide, fun _ _ _ => rfl⟩
theorem gI_213 : g_I 213 64 := ⟨by decide, by decide, fun _ _ _ => rfl⟩
theorem gI_h1 {j : Nat} (hj : j < 17) : g_I (hB j + 1) 6 := ⟨hB_lt hj (by decide), by decide, fun G f z => g_E_held hj (by decide)⟩
theorem gI_h2 {j : Nat} (hj : j < 17) : g_I (hB j + 2) 6 := ⟨hB_lt hj (by decide), by decide, fun G f z => g_E_held hj (by decide)⟩
theorem gI_h3 {j : Nat} (hj : j < 17) : g_I (hB j + 3) 6 := ⟨hB_lt hj (by decide), by decide, fun G f z => g_E_held hj (by decide)⟩
theorem gI_ho {j i : Nat} (hj : j < 17) (hi : i < 6) : g_I (hB j + (5 + i)) 6 := ⟨hB_lt hj (by omega), by decide, fun G f z => by
  rw [g_E_held hj (by omega)]
  rcases (by omega : i = 0 ∨ i = 1 ∨ i = 2 ∨ i = 3 ∨ i = 4 ∨ i = 5) with rfl | rfl | rfl | rfl | rfl | rfl <;> rfl⟩
theorem g_sw {x : Int32} {n m : Nat} (hm : m < 2 ^ 31) (h : ∀ k : Nat, n ≤ k → k ≤ m → ¬ x = nI k) : x.toInt < (n : Int) ∨ (m : Int) < x.toInt := by
  rcases Int.lt_or_le x.toInt n with h1 | h1
  · exact Or.inl h1
  · rcases Int.lt_or_le (m : Int) x.toInt with h2 | h2
    · exact Or.inr h2
    · exfalso
      refine h x.toInt.toNat (by omega) (by omega) (Int32.toInt_inj.mp ?_)
      rw [nI_toInt (by omega)]
      omega
theorem g_sw0_6 {x : Int32} (h0 : ¬ x = 0) (h1 : ¬ x = 1) (h2 : ¬ x = 2) (h3 : ¬ x = 3) (h4 : ¬ x = 4) (h5 : ¬ x = 5) (h6 : ¬ x = 6) : x.toInt < 0 ∨ 6 < x.toInt := by
  refine g_sw (n := 0) (m := 6) (by decide) (fun k _ hk => ?_)
  rcases (by omega : k = 0 ∨ k = 1 ∨ k = 2 ∨ k = 3 ∨ k = 4 ∨ k = 5 ∨ k = 6) with rfl | rfl | rfl | rfl | rfl | rfl | rfl
  · exact h0
  · exact h1
  · exact h2
  · exact h3
  · exact h4
  · exact h5
  · exact h6
/-! the words of the contracts -/
def q_sum : Nat → (Nat → Nat) → Nat
  | 0, _ => 0
  | n + 1, f => q_sum n f + f n
def q_or : Nat → (Nat → Nat) → Nat
  | 0, _ => 0
  | n + 1, f => q_or n f ||| f n
/-- STRENGTH by kind, grass, height -/
def q_str (k g h : Nat) : Nat := if k = 1 then h else if k = 2 then h + 2 * g else if k = 3 then h + g + 2 else h + g
def q_bh (s h x : Nat) : Nat := if s < x then 0 else if x = s then h - 1 else h
def q_in6 (b : Nat) (i : Nat) (v : Nat) : Nat := if b.testBit i then v else 0
theorem q_tb {b k : Nat} : (b >>> k) &&& 1 = 0 ↔ ¬ (b.testBit k = true) := by
  unfold Nat.testBit
  rw [Nat.and_comm 1]
  constructor
  · intro h; rw [h]; decide
  · intro h
    rcases Nat.mod_two_eq_zero_or_one (b >>> k) with q | q
    · rw [Nat.and_one_is_mod, q]
    · exact absurd (by rw [Nat.and_one_is_mod, q]; decide) h
theorem q_tb1 {b k : Nat} : ¬ (b >>> k) &&& 1 = 0 ↔ b.testBit k = true := by
  rw [q_tb]; exact Decidable.not_not
theorem q_sum_ext : ∀ {n : Nat} {f g : Nat → Nat}, (∀ i, i < n → f i = g i) → q_sum n f = q_sum n g
  | 0, _, _, _ => rfl
  | n + 1, f, g, h => by
    show q_sum n f + f n = q_sum n g + g n
    rw [q_sum_ext (fun i hi => h i (Nat.lt_succ_of_lt hi)), h n (Nat.lt_succ_self n)]
theorem q_or_ext : ∀ {n : Nat} {f g : Nat → Nat}, (∀ i, i < n → f i = g i) → q_or n f = q_or n g
  | 0, _, _, _ => rfl
  | n + 1, f, g, h => by
    show q_or n f ||| f n = q_or n g ||| g n
    rw [q_or_ext (fun i hi => h i (Nat.lt_succ_of_lt hi)), h n (Nat.lt_succ_self n)]
theorem q_sum_le {m : Nat} : ∀ {n : Nat} {f : Nat → Nat}, (∀ i, i < n → f i ≤ m) → q_sum n f ≤ n * m
  | 0, _, _ => by simp [q_sum]
  | n + 1, f, h => by
    show q_sum n f + f n ≤ _
    have h1 := q_sum_le (fun i hi => h i (Nat.lt_succ_of_lt hi))
    have h2 := h n (Nat.lt_succ_self n)
    rw [Nat.succ_mul]
    omega
theorem q_or_lt {m : Nat} : ∀ {n : Nat} {f : Nat → Nat}, (∀ i, i < n → f i < 2 ^ m) → q_or n f < 2 ^ m
  | 0, _, _ => Nat.two_pow_pos m
  | n + 1, f, h => Nat.or_lt_two_pow (q_or_lt (fun i hi => h i (Nat.lt_succ_of_lt hi))) (h n (Nat.lt_succ_self n))
