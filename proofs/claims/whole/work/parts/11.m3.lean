/-! The class: rows copied, the text read. -/
section IUS
variable {G : g_G} {X : g_X} {cc : ByteArray} {own : String} {pc : Nat} {lv : List (Option Value)} {st : List Value} {V : g_V} {S : g_L}
theorem j_iushr {x y : Int32} (hd : decode cc pc = .ok (.iushr, 1)) (kk : JW G X cc own (pc + 1) lv (.int ((x.toUInt32 >>> (y.toUInt32 &&& Int32.toUInt32 31)).toInt32) :: st) V S) : JW G X cc own pc lv (.int y :: .int x :: st) V S :=
  fun p e s m args below meth c Q C K H locs ls hl hP hS => lv_iushr C.1 C.2.1 hd rfl (kk p e s m args below meth c Q C K H locs ls hl hP hS)
theorem g_pw {V1 : g_V} (k : JW G X cc own pc lv st V1 S) : ∀ (r : Option Value) (V' : g_V) (S' : g_L), (r = none ∧ V' = V1 ∧ S' = S) → JW G X cc own pc lv (r.toList ++ st) V' S' := by
  rintro _ _ _ ⟨rfl, rfl, rfl⟩
  exact k
end IUS
def g_row (V : g_V) (c : Nat) (f : Nat → Nat) : g_V := fun c' => if c' = c then f else V c'
theorem g_rowS {V : g_V} {c : Nat} {f : Nat → Nat} : g_row V c f c = f := if_pos rfl
theorem g_rowN {V : g_V} {c c' : Nat} {f : Nat → Nat} (h : c' ≠ c) : g_row V c f c' = V c' := if_neg h
def g_cp (V : g_V) (c1 c2 i : Nat) : g_V := g_row V c2 (fun k => if k < i then V c1 k else V c2 k)
theorem g_cp_0 {V : g_V} {c1 c2 : Nat} : g_cp V c1 c2 0 = V := by
  funext c k
  unfold g_cp g_row
  by_cases h : c = c2
  · subst h; simp
  · simp [h]
theorem g_cp_N {V : g_V} {c1 c2 i c : Nat} (h : c ≠ c2) : g_cp V c1 c2 i c = V c := g_rowN h
theorem g_cp_S {V : g_V} {c1 c2 i k : Nat} (h : k < i) : g_cp V c1 c2 i c2 k = V c1 k := by
  unfold g_cp; rw [g_rowS]; exact if_pos h
theorem g_cp_step {V : g_V} {c1 c2 i : Nat} (h : c1 ≠ c2) : g_up (g_cp V c1 c2 i) c2 i (g_cp V c1 c2 i c1 i) = g_cp V c1 c2 (i + 1) := by
  funext c k
  rw [g_cp_N h]
  unfold g_up g_cp g_row
  by_cases hc : c = c2
  · subst hc
    by_cases hk : k = i
    · subst hk; simp
    · simp only [hk, and_false, if_false, if_true]
      by_cases hl : k < i
      · rw [if_pos hl, if_pos (by omega)]
      · rw [if_neg hl, if_neg (by omega)]
  · simp [hc]
set_option maxRecDepth 4000 in
theorem lp_D_copyRow {G : g_G} (l : Launch) (V : g_V) (S : g_L) (c1 c2 : Nat) (h1 : g_I c1 6) (h2 : g_I c2 6) (hne : c1 ≠ c2) : ∀ (n : Nat) (i : Nat), (i ≤ 6) → 6 - i < n → JW G (g_M G l 1 none (fun r V' S' => r = none ∧ V' = g_cp V c1 c2 6 ∧ S' = S)) b_D_copyRow R_D 2 [some (.ref (g_a G (c1))), some (.ref (g_a G (c2))), some (.int (nI (i)))] [] (g_cp V c1 c2 i) S := by
  intro n
  induction n with
  | zero => intro i hi hm; exact absurd hm (Nat.not_lt_zero _)
  | succ n ih =>
    intro i hi hm
    refine j_iload_n (i := 2) d_D_copyRow_2 rfl lg2 ?_
    refine j_aload_n (i := 0) d_D_copyRow_3 rfl lg0 ?_
    refine j_alen d_D_copyRow_4 h1 ?_
    refine j_icmp_geN (tgt := 26) d_D_copyRow_5 (by decide) (by omega) (by omega) (fun h_5 => ?_) (fun h_5 => ?_)
    ·
      refine j_vret d_D_copyRow_26 ⟨rfl, by rw [show i = 6 by omega], rfl⟩
    ·
      refine j_iload_n (i := 2) d_D_copyRow_8 rfl lg2 ?_
      refine j_aload_n (i := 1) d_D_copyRow_9 rfl lg1 ?_
      refine j_alen d_D_copyRow_10 h2 ?_
      refine j_icmp_geN (tgt := 26) d_D_copyRow_11 (by decide) (by omega) (by omega) (fun h_11 => ?_) (fun h_11 => ?_)
      ·
        refine j_vret d_D_copyRow_26 ⟨rfl, by rw [show i = 6 by omega], rfl⟩
      ·
        refine j_aload_n (i := 1) d_D_copyRow_14 rfl lg1 ?_
        refine j_iload_n (i := 2) d_D_copyRow_15 rfl lg2 ?_
        refine j_aload_n (i := 0) d_D_copyRow_16 rfl lg0 ?_
        refine j_iload_n (i := 2) d_D_copyRow_17 rfl lg2 ?_
        refine j_iald d_D_copyRow_18 h1 (by omega) ?_
        refine j_iast d_D_copyRow_19 h2 (by omega) ?_
        refine j_iincN (k := 1) d_D_copyRow_20 lg2 (by decide) ls2r ?_
        refine j_goto (tgt := 2) d_D_copyRow_23 (by decide) ?_
        rw [g_cp_step hne]
        exact ih (i + 1) (by omega) (by omega)
set_option maxRecDepth 4000 in
theorem c_D_copyRow {G : g_G} (l : Launch) (V : g_V) (S : g_L) (c1 c2 : Nat) (h1 : g_I c1 6) (h2 : g_I c2 6) (hne : c1 ≠ c2) : g_C G l y_D_copyRow b_D_copyRow 3 none 1 [.ref (g_a G (c1)), .ref (g_a G (c2))] V S (fun r V' S' => r = none ∧ V' = g_cp V c1 c2 6 ∧ S' = S) := by
  refine g_C.of (lv := [some (.ref (g_a G (c1))), some (.ref (g_a G (c2))), none]) (by decide +kernel) rfl rfl rfl (Nat.le_of_ble_eq_true rfl) ?_
  refine j_iconstN (k := 0) d_D_copyRow_0 (by decide) ?_
  refine j_istore_n d_D_copyRow_1 rfl ls2r ?_
  have h := lp_D_copyRow l V S c1 c2 h1 h2 hne _ 0 (by omega) (Nat.lt_succ_self _) (G := G)
  rw [g_cp_0] at h
  exact h
def g_fl (V : g_V) (c i : Nat) : g_V := g_row V c (fun k => if k < i then 0 else V c k)
theorem g_fl_0 {V : g_V} {c : Nat} : g_fl V c 0 = V := by
  funext c' k
  unfold g_fl g_row
  by_cases h : c' = c
  · subst h; simp
  · simp [h]
theorem g_fl_N {V : g_V} {c i c' : Nat} (h : c' ≠ c) : g_fl V c i c' = V c' := g_rowN h
theorem g_fl_S {V : g_V} {c i k : Nat} (h : k < i) : g_fl V c i c k = 0 := by
  unfold g_fl; rw [g_rowS]; exact if_pos h
theorem g_fl_step {V : g_V} {c i : Nat} : g_up (g_fl V c i) c i 0 = g_fl V c (i + 1) := by
  funext c' k
  unfold g_up g_fl g_row
  by_cases hc : c' = c
  · subst hc
    by_cases hk : k = i
    · subst hk; simp
    · simp only [hk, and_false, if_false, if_true]
      by_cases hl : k < i
      · rw [if_pos hl, if_pos (by omega)]
      · rw [if_neg hl, if_neg (by omega)]
  · simp [hc]
set_option maxRecDepth 4000 in
theorem lp_A_fill {G : g_G} (l : Launch) (V : g_V) (S : g_L) (c1 : Nat) (h1 : g_I c1 6) : ∀ (n : Nat) (i : Nat), (i ≤ 6) → 6 - i < n → JW G (g_M G l 1 none (fun r V' S' => r = none ∧ V' = g_fl V c1 6 ∧ S' = S)) b_A_fill "java/util/Arrays" 5 [some (.ref (g_a G (c1))), some (.int (nI (0))), some (.int (nI (i))), some (.int (nI (6)))] [] (g_fl V c1 i) S := by
  intro n
  induction n with
  | zero => intro i hi hm; exact absurd hm (Nat.not_lt_zero _)
  | succ n ih =>
    intro i hi hm
    refine j_iload_n (i := 2) d_A_fill_5 rfl lg2 ?_
    refine j_iload_n (i := 3) d_A_fill_6 rfl lg3 ?_
    refine j_icmp_geN (tgt := 20) d_A_fill_7 (by decide) (by omega) (by omega) (fun h_7 => ?_) (fun h_7 => ?_)
    ·
      refine j_vret d_A_fill_20 ⟨rfl, by rw [show i = 6 by omega], rfl⟩
    ·
      refine j_aload_n (i := 0) d_A_fill_10 rfl lg0 ?_
      refine j_iload_n (i := 2) d_A_fill_11 rfl lg2 ?_
      refine j_iload_n (i := 1) d_A_fill_12 rfl lg1 ?_
      refine j_iast d_A_fill_13 h1 (by omega) ?_
      refine j_iincN (k := 1) d_A_fill_14 lg2 (by decide) ls2i ?_
      refine j_goto (tgt := 5) d_A_fill_17 (by decide) ?_
      rw [g_fl_step]
      exact ih (i + 1) (by omega) (by omega)
set_option maxRecDepth 4000 in
theorem c_A_fill {G : g_G} (l : Launch) (V : g_V) (S : g_L) (c1 : Nat) (h1 : g_I c1 6) : g_C G l y_A_fill b_A_fill 4 none 1 [.ref (g_a G (c1)), .int (nI (0))] V S (fun r V' S' => r = none ∧ V' = g_fl V c1 6 ∧ S' = S) := by
  refine g_C.of (lv := [some (.ref (g_a G (c1))), some (.int (nI (0))), none, none]) (by decide +kernel) rfl rfl rfl (Nat.le_of_ble_eq_true rfl) ?_
  refine j_iconstN (k := 0) d_A_fill_0 (by decide) ?_
  refine j_istore_n d_A_fill_1 rfl ls2i ?_
  refine j_aload_n (i := 0) d_A_fill_2 rfl lg0 ?_
  refine j_alen d_A_fill_3 h1 ?_
  refine j_istore_n d_A_fill_4 rfl ls3i ?_
  have h := lp_A_fill l V S c1 h1 _ 0 (by omega) (Nat.lt_succ_self _) (G := G)
  rw [g_fl_0] at h
  exact h
/-- the Held a of V is the Held b of V2 -/
def g_hq (V : g_V) (a : Nat) (V2 : g_V) (b : Nat) : Prop :=
  (∀ r k, 1 ≤ r → r < 11 → r ≠ 4 → k < 6 → V (hB a + r) k = V2 (hB b + r) k) ∧ V (hB a) 4 = V2 (hB b) 4 ∧ V (hB a) 5 = V2 (hB b) 5 ∧ V (hB a) 6 = V2 (hB b) 6
/-- nothing but the Held a has changed -/
def g_off (V V' : g_V) (a : Nat) : Prop := ∀ c, (c < hB a ∨ hB a + 11 ≤ c) → V' c = V c
theorem hB_ne {a b r q : Nat} (h : a ≠ b) (hr : r < 11) (hq : q < 11) : hB a + r ≠ hB b + q := by unfold hB; omega
theorem hB_out {a b q : Nat} (h : b ≠ a) (hq : q < 11) : hB b + q < hB a ∨ hB a + 11 ≤ hB b + q := by unfold hB; omega
theorem hB_ne0 {a b q : Nat} (h : a ≠ b) (hq : q < 11) : hB a ≠ hB b + q := by unfold hB; omega
theorem hB_self {a r q : Nat} (h : r ≠ q) : hB a + r ≠ hB a + q := by omega
set_option maxRecDepth 4000 in
theorem lp_H_takeOver {G : g_G} (l : Launch) (V : g_V) (S : g_L) (a b : Nat) (ha : a < 17) (hb : b < 17) (hab : a ≠ b) : ∀ (n : Nat) (V1 : g_V) (i : Nat), (i ≤ 6) → (∀ c, (c < hB a ∨ hB a + 11 ≤ c) → V1 c = V c) → (∀ r k, 1 ≤ r → (r ≤ 3 ∨ (5 ≤ r ∧ r < 5 + i)) → k < 6 → V1 (hB a + r) k = V (hB b + r) k) → 6 - i < n → JW G (g_M G l 2 none (fun r V' S' => r = none ∧ g_hq V' a V b ∧ g_off V V' a ∧ S' = S)) b_H_takeOver R_H 35 [some (.ref (g_a G (hB a))), some (.ref (g_a G (hB b))), some (.int (nI (i)))] [] V1 S := by
  intro n
  induction n with
  | zero => intro V1 i hi ho hh hm; exact absurd hm (Nat.not_lt_zero _)
  | succ n ih =>
    intro V1 i hi ho hh hm
    refine j_iload_n (i := 2) d_H_takeOver_35 rfl lg2 ?_
    refine j_bipushN (k := 6) d_H_takeOver_36 (by decide) ?_
    refine j_icmp_geN (tgt := 62) d_H_takeOver_38 (by decide) (by omega) (by omega) (fun h_38 => ?_) (fun h_38 => ?_)
    ·
      have hba := Ne.symm hab
      have hbo : V1 (hB b) = V (hB b) := ho _ (hB_out (q := 0) hba (by omega))
      have hne : hB b ≠ hB a := hB_ne0 (q := 0) hba (by omega)
      refine j_aload_n (i := 0) d_H_takeOver_62 rfl lg0 ?_
      refine j_aload_n (i := 1) d_H_takeOver_63 rfl lg1 ?_
      refine gf_H_32 (j := b) hb d_H_takeOver_64 ?_
      refine pf_H_32 (j := a) ha d_H_takeOver_67 ?_
      refine j_aload_n (i := 0) d_H_takeOver_70 rfl lg0 ?_
      refine j_aload_n (i := 1) d_H_takeOver_71 rfl lg1 ?_
      refine gf_H_36 (j := b) hb d_H_takeOver_72 ?_
      refine pf_H_36 (j := a) ha d_H_takeOver_75 ?_
      refine j_aload_n (i := 0) d_H_takeOver_78 rfl lg0 ?_
      refine j_aload_n (i := 1) d_H_takeOver_79 rfl lg1 ?_
      refine gf_H_39 (j := b) hb d_H_takeOver_80 ?_
      refine pf_H_39 (j := a) ha d_H_takeOver_83 ?_
      refine j_vret d_H_takeOver_86 ⟨rfl, ⟨fun r k h1 h2 h4 hk => by rw [g_upN (by omega), g_upN (by omega), g_upN (by omega)]; exact hh r k h1 (by omega) hk, by rw [g_upK (by decide), g_upK (by decide), g_upS, hbo], by rw [g_upK (by decide), g_upS, g_upN hne, hbo], by rw [g_upS, g_upN hne, g_upN hne, hbo]⟩, fun c hc => by
        have hca : c ≠ hB a := by omega
        rw [g_up_ne hca, g_up_ne hca, g_up_ne hca]; exact ho c hc, rfl⟩
    ·
      refine j_aload_n (i := 1) d_H_takeOver_41 rfl lg1 ?_
      refine gf_H_23 (j := b) hb d_H_takeOver_42 ?_
      refine j_iload_n (i := 2) d_H_takeOver_45 rfl lg2 ?_
      refine j_aaldO (j := b) d_H_takeOver_46 hb (by omega) ?_
      refine j_aload_n (i := 0) d_H_takeOver_47 rfl lg0 ?_
      refine gf_H_23 (j := a) ha d_H_takeOver_48 ?_
      refine j_iload_n (i := 2) d_H_takeOver_51 rfl lg2 ?_
      refine j_aaldO (j := a) d_H_takeOver_52 ha (by omega) ?_
      refine cl_H_42 (c_D_copyRow l V1 S (hB b + (5 + i)) (hB a + (5 + i)) (gI_ho hb (by omega)) (gI_ho ha (by omega)) (by first | exact hB_ne (Ne.symm hab) (by omega) (by omega) | exact fun q => by omega)) d_H_takeOver_53 rfl rfl (g_ftM (by decide)) (Nat.le_of_ble_eq_true rfl) (g_pw ?_)
      refine j_iincN (k := 1) d_H_takeOver_56 lg2 (by decide) ls2r ?_
      refine j_goto (tgt := 35) d_H_takeOver_59 (by decide) ?_
      have hba := Ne.symm hab
      have e1 : ∀ r, r < 11 → V1 (hB b + r) = V (hB b + r) := fun r hr => ho _ (hB_out hba hr)
      refine ih (g_cp V1 (hB b + (5 + i)) (hB a + (5 + i)) 6) (i + 1) (by omega) (fun c hc => ?_) (fun r k h1 h2 hk => ?_) (by omega)
      · rw [g_cp_N (by omega)]; exact ho c hc
      · by_cases hr : r = 5 + i
        · subst hr
          rw [g_cp_S hk, e1 _ (by omega)]
        · rw [g_cp_N (by omega)]; exact hh r k h1 (by omega) hk
set_option maxRecDepth 4000 in
theorem c_H_takeOver {G : g_G} (l : Launch) (V : g_V) (S : g_L) (a b : Nat) (ha : a < 17) (hb : b < 17) (hab : a ≠ b) : g_C G l y_H_takeOver b_H_takeOver 3 none 2 [.ref (g_a G (hB a)), .ref (g_a G (hB b))] V S (fun r V' S' => r = none ∧ g_hq V' a V b ∧ g_off V V' a ∧ S' = S) := by
  refine g_C.of (lv := [some (.ref (g_a G (hB a))), some (.ref (g_a G (hB b))), none]) (by decide +kernel) rfl rfl rfl (Nat.le_of_ble_eq_true rfl) ?_
  refine j_aload_n (i := 1) d_H_takeOver_0 rfl lg1 ?_
  refine gf_H_9 (j := b) hb d_H_takeOver_1 ?_
  refine j_aload_n (i := 0) d_H_takeOver_4 rfl lg0 ?_
  refine gf_H_9 (j := a) ha d_H_takeOver_5 ?_
  refine cl_H_42 (c_D_copyRow l V S (hB b + 1) (hB a + 1) (gI_h1 hb) (gI_h1 ha) (by first | exact hB_ne (Ne.symm hab) (by omega) (by omega) | exact fun q => by omega)) d_H_takeOver_8 rfl rfl (g_ftM (by decide)) (Nat.le_of_ble_eq_true rfl) (g_pw ?_)
  refine j_aload_n (i := 1) d_H_takeOver_11 rfl lg1 ?_
  refine gf_H_15 (j := b) hb d_H_takeOver_12 ?_
  refine j_aload_n (i := 0) d_H_takeOver_15 rfl lg0 ?_
  refine gf_H_15 (j := a) ha d_H_takeOver_16 ?_
  refine cl_H_42 (c_D_copyRow l (g_cp V (hB b + 1) (hB a + 1) 6) S (hB b + 2) (hB a + 2) (gI_h2 hb) (gI_h2 ha) (by first | exact hB_ne (Ne.symm hab) (by omega) (by omega) | exact fun q => by omega)) d_H_takeOver_19 rfl rfl (g_ftM (by decide)) (Nat.le_of_ble_eq_true rfl) (g_pw ?_)
  refine j_aload_n (i := 1) d_H_takeOver_22 rfl lg1 ?_
  refine gf_H_18 (j := b) hb d_H_takeOver_23 ?_
  refine j_aload_n (i := 0) d_H_takeOver_26 rfl lg0 ?_
  refine gf_H_18 (j := a) ha d_H_takeOver_27 ?_
  refine cl_H_42 (c_D_copyRow l (g_cp (g_cp V (hB b + 1) (hB a + 1) 6) (hB b + 2) (hB a + 2) 6) S (hB b + 3) (hB a + 3) (gI_h3 hb) (gI_h3 ha) (by first | exact hB_ne (Ne.symm hab) (by omega) (by omega) | exact fun q => by omega)) d_H_takeOver_30 rfl rfl (g_ftM (by decide)) (Nat.le_of_ble_eq_true rfl) (g_pw ?_)
  refine j_iconstN (k := 0) d_H_takeOver_33 (by decide) ?_
  refine j_istore_n d_H_takeOver_34 rfl ls2r ?_
  have hba := Ne.symm hab
  refine lp_H_takeOver l V S a b ha hb hab _ _ 0 (by omega) (fun c hc => ?_) (fun r k h1 h2 hk => ?_) (Nat.lt_succ_self _)
  · rw [g_cp_N (by omega), g_cp_N (by omega), g_cp_N (by omega)]
  · rcases (by omega : r = 1 ∨ r = 2 ∨ r = 3) with rfl | rfl | rfl
    · rw [g_cp_N (by omega), g_cp_N (by omega), g_cp_S hk]
    · rw [g_cp_N (by omega), g_cp_S hk, g_cp_N (hB_ne hba (by omega) (by omega))]
    · rw [g_cp_S hk, g_cp_N (hB_ne hba (by omega) (by omega)), g_cp_N (hB_ne hba (by omega) (by omega))]
set_option maxRecDepth 4000 in
theorem lp_H_clear {G : g_G} (l : Launch) (V : g_V) (S : g_L)  : ∀ (n : Nat) (V1 : g_V) (i : Nat), (i ≤ 6) → (∀ c, (c < hB 0 ∨ hB 0 + 11 ≤ c) → V1 c = V c) → (∀ r k, 1 ≤ r → (r ≤ 3 ∨ (5 ≤ r ∧ r < 5 + i)) → k < 6 → V1 (hB 0 + r) k = 0) → 6 - i < n → JW G (g_M G l 2 none (fun r V' S' => r = none ∧ (∀ q k, 1 ≤ q → q < 11 → q ≠ 4 → k < 6 → V' (hB 0 + q) k = 0) ∧ (V' (hB 0) 4 = 0 ∧ V' (hB 0) 5 = 0 ∧ V' (hB 0) 6 = 0) ∧ g_off V V' 0 ∧ S' = S)) b_H_clear R_H 26 [some (.ref (g_a G (hB 0))), some (.int (nI (i)))] [] V1 S := by
  intro n
  induction n with
  | zero => intro V1 i hi ho hh hm; exact absurd hm (Nat.not_lt_zero _)
  | succ n ih =>
    intro V1 i hi ho hh hm
    refine j_iload_n (i := 1) d_H_clear_26 rfl lg1 ?_
    refine j_bipushN (k := 6) d_H_clear_27 (by decide) ?_
    refine j_icmp_geN (tgt := 48) d_H_clear_29 (by decide) (by omega) (by omega) (fun h_29 => ?_) (fun h_29 => ?_)
    ·
      refine j_aload_n (i := 0) d_H_clear_48 rfl lg0 ?_
      refine j_iconstN (k := 0) d_H_clear_49 (by decide) ?_
      refine pf_H_32 (j := 0) (by decide) d_H_clear_50 ?_
      refine j_aload_n (i := 0) d_H_clear_53 rfl lg0 ?_
      refine j_iconstN (k := 0) d_H_clear_54 (by decide) ?_
      refine pf_H_36 (j := 0) (by decide) d_H_clear_55 ?_
      refine j_aload_n (i := 0) d_H_clear_58 rfl lg0 ?_
      refine j_iconstN (k := 0) d_H_clear_59 (by decide) ?_
      refine pf_H_39 (j := 0) (by decide) d_H_clear_60 ?_
      refine j_vret d_H_clear_63 ⟨rfl, fun r k h1 h2 h4 hk => by rw [g_upN (by omega), g_upN (by omega), g_upN (by omega)]; exact hh r k h1 (by omega) hk, ⟨by rw [g_upK (by decide), g_upK (by decide), g_upS], by rw [g_upK (by decide), g_upS], by rw [g_upS]⟩, fun c hc => by
        have hca : c ≠ hB 0 := by omega
        rw [g_up_ne hca, g_up_ne hca, g_up_ne hca]; exact ho c hc, rfl⟩
    ·
      refine j_aload_n (i := 0) d_H_clear_32 rfl lg0 ?_
      refine gf_H_23 (j := 0) (by decide) d_H_clear_33 ?_
      refine j_iload_n (i := 1) d_H_clear_36 rfl lg1 ?_
      refine j_aaldO (j := 0) d_H_clear_37 (by decide) (by omega) ?_
      refine j_iconstN (k := 0) d_H_clear_38 (by decide) ?_
      refine cl_H_26 (c_A_fill l V1 S (hB 0 + (5 + i)) (gI_ho (by decide) (by omega))) d_H_clear_39 rfl rfl (g_ftM (by decide)) (Nat.le_of_ble_eq_true rfl) (g_pw ?_)
      refine j_iincN (k := 1) d_H_clear_42 lg1 (by decide) ls1r ?_
      refine j_goto (tgt := 26) d_H_clear_45 (by decide) ?_
      refine ih (g_fl V1 (hB 0 + (5 + i)) 6) (i + 1) (by omega) (fun c hc => ?_) (fun r k h1 h2 hk => ?_) (by omega)
      · rw [g_fl_N (by omega)]; exact ho c hc
      · by_cases hr : r = 5 + i
        · subst hr
          rw [g_fl_S hk]
        · rw [g_fl_N (by omega)]; exact hh r k h1 (by omega) hk
set_option maxRecDepth 4000 in
theorem c_H_clear {G : g_G} (l : Launch) (V : g_V) (S : g_L)  : g_C G l y_H_clear b_H_clear 2 none 2 [.ref (g_a G (hB 0))] V S (fun r V' S' => r = none ∧ (∀ q k, 1 ≤ q → q < 11 → q ≠ 4 → k < 6 → V' (hB 0 + q) k = 0) ∧ (V' (hB 0) 4 = 0 ∧ V' (hB 0) 5 = 0 ∧ V' (hB 0) 6 = 0) ∧ g_off V V' 0 ∧ S' = S) := by
  refine g_C.of (lv := [some (.ref (g_a G (hB 0))), none]) (by decide +kernel) rfl rfl rfl (Nat.le_of_ble_eq_true rfl) ?_
  refine j_aload_n (i := 0) d_H_clear_0 rfl lg0 ?_
  refine gf_H_9 (j := 0) (by decide) d_H_clear_1 ?_
  refine j_iconstN (k := 0) d_H_clear_4 (by decide) ?_
  refine cl_H_26 (c_A_fill l V S (hB 0 + 1) (gI_h1 (by decide))) d_H_clear_5 rfl rfl (g_ftM (by decide)) (Nat.le_of_ble_eq_true rfl) (g_pw ?_)
  refine j_aload_n (i := 0) d_H_clear_8 rfl lg0 ?_
  refine gf_H_15 (j := 0) (by decide) d_H_clear_9 ?_
  refine j_iconstN (k := 0) d_H_clear_12 (by decide) ?_
  refine cl_H_26 (c_A_fill l (g_fl V (hB 0 + 1) 6) S (hB 0 + 2) (gI_h2 (by decide))) d_H_clear_13 rfl rfl (g_ftM (by decide)) (Nat.le_of_ble_eq_true rfl) (g_pw ?_)
  refine j_aload_n (i := 0) d_H_clear_16 rfl lg0 ?_
  refine gf_H_18 (j := 0) (by decide) d_H_clear_17 ?_
  refine j_iconstN (k := 0) d_H_clear_20 (by decide) ?_
  refine cl_H_26 (c_A_fill l (g_fl (g_fl V (hB 0 + 1) 6) (hB 0 + 2) 6) S (hB 0 + 3) (gI_h3 (by decide))) d_H_clear_21 rfl rfl (g_ftM (by decide)) (Nat.le_of_ble_eq_true rfl) (g_pw ?_)
  refine j_iconstN (k := 0) d_H_clear_24 (by decide) ?_
  refine j_istore_n d_H_clear_25 rfl ls1r ?_
  refine lp_H_clear l V S _ _ 0 (by omega) (fun c hc => ?_) (fun r k h1 h2 hk => ?_) (Nat.lt_succ_self _)
  · rw [g_fl_N (by omega), g_fl_N (by omega), g_fl_N (by omega)]
  · rcases (by omega : r = 1 ∨ r = 2 ∨ r = 3) with rfl | rfl | rfl
    · rw [g_fl_N (by omega), g_fl_N (by omega), g_fl_S hk]
    · rw [g_fl_N (by omega), g_fl_S hk]
    · rw [g_fl_S hk]
