/-! The class: storms that are told, winters. -/
theorem lN63 {a : Nat} (h : a < 2 ^ 63) : (lN a).toInt = (a : Int) := Int64.toInt_ofNat_of_lt h
theorem lN_div {a b : Nat} (ha : a < 2 ^ 63) (hb : b < 2 ^ 63) : lN a / lN b = lN (a / b) := by
  apply Int64.toInt_inj.mp
  have e : (-1 : Int64).toInt = -1 := by decide
  rw [Int64.toInt_div_of_ne_right _ _ (fun h => by have h1 := lN63 hb; rw [h, e] at h1; omega), lN63 ha, lN63 hb, lN63 (Nat.lt_of_le_of_lt (Nat.div_le_self _ _) ha)]
  exact (Int.ofNat_tdiv a b).symm
theorem lN_rem {a b : Nat} (ha : a < 2 ^ 63) (hb : b < 2 ^ 63) : lN a - lN a / lN b * lN b = lN (a % b) := by
  rw [lN_div ha hb, lN_mul, lN_sub (Nat.div_mul_le_self a b)]
  congr 1
  have := Nat.div_add_mod a b
  rw [Nat.mul_comm] at this
  omega
theorem lN_of {x : Int64} (h : 0 ≤ x) : ∃ m : Nat, m < 2 ^ 63 ∧ x = lN m := by
  rw [Int64.le_iff_toInt_le, Int64.toInt_zero] at h
  have h2 := x.toInt_lt
  refine ⟨x.toInt.toNat, by omega, Int64.toInt_inj.mp ?_⟩
  rw [lN63 (by omega)]
  omega
theorem lN_0 {m : Nat} (hm : m < 2 ^ 63) : lN m = 0 ↔ m = 0 := by
  constructor
  · intro h
    have h1 := lN63 hm
    rw [h, Int64.toInt_zero] at h1
    omega
  · intro h; rw [h]; rfl
def q_dg (m k : Nat) : Nat := m / 100 ^ k % 100
theorem q_dg_div {m k : Nat} : m / 100 ^ k / 100 = m / 100 ^ (k + 1) := by rw [Nat.div_div_eq_div_mul, Nat.pow_succ]
/-- n storms are told right: digits of two, each 20 at most -/
abbrev q_st (n m : Nat) : Prop := (∀ k, k < n → q_dg m k ≤ 20) ∧ m / 100 ^ n = 0
set_option maxRecDepth 4000 in
theorem lp_D_readStorms {G : g_G} (l : Launch) (V : g_V) (S : g_L) (hn : V 0 1 ≤ 6) (k0 m : Nat) (hk0 : 1 ≤ k0 ∧ k0 ≤ 5) (hm63 : m < 2 ^ 63) : ∀ (n : Nat) (V1 : g_V) (k q : Nat) (i : Int32), (g_dn i k) → (k ≤ k0) → (q = m / 100 ^ (k0 - k)) → (∀ c, c ≠ 9 → V1 c = V c) → (∀ j, k ≤ j → j < k0 → V1 9 j = q_dg m (k0 - 1 - j) ∧ V1 9 j ≤ 20) → k < n → JW G (g_M G l 2 (some .boolean) (fun r V' S' => S' = S ∧ (∀ c, c ≠ 9 → V' c = V c) ∧ ((q_st k0 m ∧ r = some (.int (nI 1)) ∧ ∀ j, j < k0 → V' 9 j = q_dg m (k0 - 1 - j) ∧ V' 9 j ≤ 20) ∨ (¬ q_st k0 m ∧ r = some (.int (nI 0)))))) b_D_readStorms R_D 16 [some (.ref (g_a G (0))), some (.int (nI (k0))), some (.long (lN m)), none, some (.long (lN q)), none, some (.int (i))] [] V1 S := by
  intro n
  induction n with
  | zero => intro V1 k q i hi hk hq hV hr hm; exact absurd hm (Nat.not_lt_zero _)
  | succ n ih =>
    intro V1 k q i hi hk hq hV hr hm
    have hq63 : q < 2 ^ 63 := by rw [hq]; exact Nat.lt_of_le_of_lt (Nat.div_le_self _ _) hm63
    refine j_iload d_D_readStorms_16 lg6 ?_
    refine j_if_lt (tgt := 64) d_D_readStorms_18 (by decide) (fun h_18 => ?_) (fun h_18 => ?_)
    ·
      refine j_lload d_D_readStorms_64 lg4 ?_
      refine j_lconst (v := 0) d_D_readStorms_66 rfl ?_
      refine j_lcmp d_D_readStorms_67 ?_
      refine j_if_ne (tgt := 75) d_D_readStorms_68 (by decide) (fun h_68 => ?_) (fun h_68 => ?_)
      ·
        refine j_iconstN (k := 0) d_D_readStorms_75 (by decide) ?_
        refine j_zret d_D_readStorms_76 (by decide) ⟨rfl, hV, Or.inr ⟨fun q1 => h_68 (by rw [lg_cmp_eq, lN_0 hq63, hq, g_dn_neg hi h_18 (by omega), Nat.sub_zero]; exact q1.2), rfl⟩⟩
      ·
        refine j_iconstN (k := 1) d_D_readStorms_71 (by decide) ?_
        refine j_goto (tgt := 76) d_D_readStorms_72 (by decide) ?_
        refine j_zret d_D_readStorms_76 (by decide) ⟨rfl, hV, Or.inl ⟨⟨fun j hj => by have h1 := (hr (k0 - 1 - j) (by rw [g_dn_neg hi h_18 (by omega)]; exact Nat.zero_le _) (by omega)); rw [h1.1, show k0 - 1 - (k0 - 1 - j) = j by omega] at h1; exact h1.2, by have h2 := h_68; rw [lg_cmp_eq, lN_0 hq63, hq, g_dn_neg hi h_18 (by omega), Nat.sub_zero] at h2; exact h2⟩, rfl, fun j hj => hr j (by rw [g_dn_neg hi h_18 (by omega)]; exact Nat.zero_le _) hj⟩⟩
    ·
      obtain ⟨k', rfl, rfl⟩ := g_dn_pos hi h_18
      have hm100 := Nat.mod_lt q (show 0 < 100 by decide)
      refine j_aload_n (i := 0) d_D_readStorms_21 rfl lg0 ?_
      refine gf_D_43 d_D_readStorms_22 ?_
      refine j_iload d_D_readStorms_25 lg6 ?_
      refine j_lload d_D_readStorms_27 lg4 ?_
      refine j_ldc2 (v := 100) d_D_readStorms_29 (g_use (List.mem_of_getElem? (i := 384) (by decide +kernel)) rfl) ?_
      refine j_lrem d_D_readStorms_32 (by decide) ?_
      refine j_l2i d_D_readStorms_33 ?_
      rw [show (100 : Int64) = lN 100 from rfl, lN_rem hq63 (by decide), lN_i]
      refine j_iast d_D_readStorms_34 gI_9 (by omega) ?_
      refine j_lload d_D_readStorms_35 lg4 ?_
      refine j_ldc2 (v := 100) d_D_readStorms_37 (g_use (List.mem_of_getElem? (i := 384) (by decide +kernel)) rfl) ?_
      refine j_ldiv d_D_readStorms_40 (by decide) ?_
      rw [show (100 : Int64) = lN 100 from rfl, lN_div hq63 (by decide)]
      refine j_lstore d_D_readStorms_41 lt4n ?_
      refine j_aload_n (i := 0) d_D_readStorms_43 rfl lg0 ?_
      refine gf_D_43 d_D_readStorms_44 ?_
      refine j_iload d_D_readStorms_47 lg6 ?_
      refine j_iald d_D_readStorms_49 gI_9 (by omega) ?_
      refine j_eqv (b := q % 100) (by rw [g_upS]) ?_
      refine cl_D_134 (c_D_isStorm l (g_up V1 9 k' (q % 100)) S (nI (q % 100))) d_D_readStorms_50 rfl rfl (g_ftM (by decide)) (Nat.le_of_ble_eq_true rfl) (g_pu ?_)
      refine j_if_neB (tgt := 58) d_D_readStorms_53 (by decide) (fun h_53 => ?_) (fun h_53 => ?_)
      ·
        refine j_iinc d_D_readStorms_58 lg6 rfl ls6n ?_
        refine j_goto (tgt := 16) d_D_readStorms_61 (by decide) ?_
        refine ih (g_up V1 9 k' (q % 100)) k' (q / 100) _ g_dn_dec (by omega) (by rw [hq, q_dg_div]; congr 2; omega) (fun c hc => by rw [g_up_ne hc]; exact hV c hc) (fun j h1 h2 => ?_) (by omega)
        have h53 := (q_in_nI (by omega)).mp h_53
        by_cases hj : j = k'
        · subst hj
          rw [g_upS, hq]
          exact ⟨by unfold q_dg; congr 3; omega, by rw [← hq]; omega⟩
        · rw [g_upK hj]
          exact hr j (by omega) h2
      ·
        refine j_iconstN (k := 0) d_D_readStorms_56 (by decide) ?_
        refine j_zret d_D_readStorms_57 (by decide) ⟨rfl, fun c hc => by rw [g_up_ne hc]; exact hV c hc, Or.inr ⟨fun q1 => h_53 (by
            have q2 := q1.1 (k0 - (k' + 1)) (by omega)
            unfold q_dg at q2; rw [← hq] at q2
            rw [q_in_nI (by omega)]; omega), rfl⟩⟩
set_option maxRecDepth 4000 in
theorem c_D_readStorms {G : g_G} (l : Launch) (V : g_V) (S : g_L) (hn : V 0 1 ≤ 6) (k0 : Nat) (z : Int64) (hk0 : 1 ≤ k0 ∧ k0 ≤ 5) : g_C G l y_D_readStorms b_D_readStorms 7 (some .boolean) 2 [.ref (g_a G (0)), .int (nI (k0)), .long (z)] V S (fun r V' S' => S' = S ∧ (∀ c, c ≠ 9 → V' c = V c) ∧ ((0 ≤ z ∧ q_st k0 z.toInt.toNat ∧ r = some (.int (nI 1)) ∧ ∀ j, j < k0 → V' 9 j = q_dg z.toInt.toNat (k0 - 1 - j) ∧ V' 9 j ≤ 20) ∨ (¬ (0 ≤ z ∧ q_st k0 z.toInt.toNat) ∧ r = some (.int (nI 0))))) := by
  refine g_C.of (lv := [some (.ref (g_a G (0))), some (.int (nI (k0))), some (.long (z)), none, none, none, none]) (by decide +kernel) rfl rfl rfl (Nat.le_of_ble_eq_true rfl) ?_
  refine j_lload_n (i := 2) d_D_readStorms_0 rfl lg2 ?_
  refine j_lconst (v := 0) d_D_readStorms_1 rfl ?_
  refine j_lcmp d_D_readStorms_2 ?_
  refine j_if_ge (tgt := 8) d_D_readStorms_3 (by decide) (fun h_3 => ?_) (fun h_3 => ?_)
  ·
    have hz0 : 0 ≤ z := (lg_cmp_ge z 0).mp h_3
    obtain ⟨m, hm, rfl⟩ := lN_of hz0
    have e63 : (lN m).toInt.toNat = m := by rw [lN63 hm]; rfl
    have eP : ∀ (r : Option Value) (V' : g_V) (S' : g_L), (S' = S ∧ (∀ c, c ≠ 9 → V' c = V c) ∧ ((0 ≤ lN m ∧ q_st k0 (lN m).toInt.toNat ∧ r = some (.int (nI 1)) ∧ ∀ j, j < k0 → V' 9 j = q_dg (lN m).toInt.toNat (k0 - 1 - j) ∧ V' 9 j ≤ 20) ∨ (¬ (0 ≤ lN m ∧ q_st k0 (lN m).toInt.toNat) ∧ r = some (.int (nI 0))))) ↔ (S' = S ∧ (∀ c, c ≠ 9 → V' c = V c) ∧ ((q_st k0 m ∧ r = some (.int (nI 1)) ∧ ∀ j, j < k0 → V' 9 j = q_dg m (k0 - 1 - j) ∧ V' 9 j ≤ 20) ∨ (¬ q_st k0 m ∧ r = some (.int (nI 0))))) := fun r V' S' => by rw [e63]; simp only [hz0, true_and]
    refine j_lload_n (i := 2) d_D_readStorms_8 rfl lg2 ?_
    refine j_lstore d_D_readStorms_9 lt4n ?_
    refine j_iload_n (i := 1) d_D_readStorms_11 rfl lg1 ?_
    refine j_iconstN (k := 1) d_D_readStorms_12 (by decide) ?_
    refine j_isubN d_D_readStorms_13 (by omega) ?_
    refine j_istore d_D_readStorms_14 ls6n ?_
    have h := lp_D_readStorms (G := G) l V S hn k0 m hk0 hm _ V k0 m _ (Or.inr ⟨by omega, rfl⟩) (Nat.le_refl _) (by rw [Nat.sub_self, Nat.pow_zero, Nat.div_one]) (fun _ _ => rfl) (fun j h1 h2 => absurd h1 (by omega)) (Nat.lt_succ_self _)
    simp only [eP]
    exact h
  ·
    refine j_iconstN (k := 0) d_D_readStorms_6 (by decide) ?_
    refine j_zret d_D_readStorms_7 (by decide) ⟨rfl, fun _ _ => rfl, Or.inr ⟨fun q => h_3 ((lg_cmp_ge z 0).mpr q.1), rfl⟩⟩
