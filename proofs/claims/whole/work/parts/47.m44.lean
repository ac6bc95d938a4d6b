/-! The class's constructor. -/
def k_pool (G : g_G) (n : Nat) (a : Nat → Nat → Nat) : va_W := (List.range n).flatMap (fun j => k_held G (a j))
theorem k_pool_eq {G : g_G} {n : Nat} {a b : Nat → Nat → Nat} (h : ∀ j, j < n → a j = b j) : k_pool G n a = k_pool G n b := by
  induction n with
  | zero => rfl
  | succ n ih =>
    unfold k_pool at ih ⊢
    rw [List.range_succ, List.flatMap_append, List.flatMap_append, ih (fun j hj => h j (by omega))]
    show _ ++ (k_held G (a n) ++ []) = _ ++ (k_held G (b n) ++ [])
    rw [h n (Nat.lt_succ_self n)]
theorem k_pool_succ {G : g_G} {n : Nat} {a b : Nat → Nat → Nat} (h : ∀ j, j < n → b j = a j) : k_pool G (n + 1) b = k_pool G n a ++ k_held G (b n) := by
  rw [← k_pool_eq h]
  unfold k_pool
  rw [List.range_succ, List.flatMap_append]
  show _ ++ (k_held G (b n) ++ []) = _
  rw [List.append_nil]
def k_arr (G : g_G) (N base j : Nat) (a : Nat → Nat → Nat) : va_E := .inl (G.2.1.2.2.1, N, .inr (.inr (.inr (.inr (fun k => if k < j then some (a (base + k) 0) else none)))))
theorem k_arr_up {G : g_G} {N base j : Nat} {a b : Nat → Nat → Nat} (h : ∀ i, i < base + j → b i = a i) : (Sum.inl (G.2.1.2.2.1, N, .inr (.inr (.inr (.inr (va_up (fun k => if k < j then some (a (base + k) 0) else none) j (some (b (base + j) 0))))))) : va_E) = k_arr G N base (j + 1) b := by
  unfold k_arr
  congr 7
  funext k
  unfold va_up
  by_cases e : k = j
  · subst e
    rw [if_pos rfl, if_pos (Nat.lt_succ_self k)]
  · rw [if_neg e]
    show (if k < j then some (a (base + k) 0) else none) = _
    by_cases e2 : k < j
    · rw [if_pos e2, if_pos (by omega), h (base + k) (by omega)]
    · rw [if_neg e2, if_neg (by omega)]
theorem k_mv {X Z Q : va_W} : ((X ++ Z) ++ Q).Perm ((X ++ Q) ++ Z) := by
  rw [List.append_assoc, List.append_assoc]
  exact (List.perm_append_comm).append_left X
set_option maxRecDepth 100000 in
set_option maxHeartbeats 4000000 in
theorem k_loop1 {G : g_G} {l : Launch} {A : Nat → Prop} {P : va_W → Prop} {h0 qp k0 n0 : Nat} {fs : List Value} {Y : va_W} (a0 : Nat → Nat → Nat) (hf : fs[6]? = some (.ref qp)) (hk0 : k0 + 154 ≤ 200) (hn0 : n0 + 938 ≤ 1433)
    (kx : ∀ a : Nat → Nat → Nat, (∀ i, i < 1 → a i = a0 i) → KW G (k_I G l k_rm_D A P) b_D_init R_D 86 [some (.ref h0), some (.int (nI 14))] [] ((h0, .inr (0, fs)) :: (qp, k_arr G 14 1 14 a) :: (Y ++ k_pool G 15 a)) (k0 + 154) (n0 + 938)) :
    ∀ (d j : Nat) (a : Nat → Nat → Nat), j + d = 14 → (∀ i, i < 1 → a i = a0 i) → KW G (k_I G l k_rm_D A P) b_D_init R_D 61 [some (.ref h0), some (.int (nI j))] [] ((h0, .inr (0, fs)) :: (qp, k_arr G 14 1 j a) :: (Y ++ k_pool G (1 + j) a)) (k0 + 11 * j) (n0 + 67 * j) := by
  intro d
  induction d with
  | zero =>
    intro j a hj ha
    have hj : j = 14 := by omega
    subst hj
    refine k_iload_n (i := 1) d_D_init_61 rfl lg1 ?_
    refine k_bipush (v := nI 14) d_D_init_62 (by decide +kernel) ?_
    refine k_icmp_ge (tgt := 86) d_D_init_64 rfl (fun _ => ?_) (fun h => absurd (Int32.le_refl _) h)
    exact kx a ha
  | succ d ih =>
    intro j a hj ha
    refine k_iload_n (i := 1) d_D_init_61 rfl lg1 ?_
    refine k_bipush (v := nI 14) d_D_init_62 (by decide +kernel) ?_
    refine k_icmp_ge (tgt := 86) d_D_init_64 rfl (fun h => ?_) (fun _ => ?_)
    · exact absurd ((nI_leI (by decide) (by omega)).mp h) (by omega)
    refine k_aload_n (i := 0) d_D_init_67 rfl lg0 ?_
    refine k_get (q0 := 0) (ci := 0) (f := 6) (N := 18) (T := T_D) (Cn := R_D) (fs := fs) d_D_init_68 rfl rfl in_D (by decide) rfl (g_use (List.mem_of_getElem? (i := 127) (by decide +kernel)) rfl) hf ?_
    refine k_iload_n (i := 1) d_D_init_71 rfl lg1 ?_
    refine k_new (ci := 2) (N := 7) (T := T_H) (ty := ty_H) (fs := [.null, .null, .null, .null, .int (nI 0), .int (nI 0), .int (nI 0)]) d_D_init_72 rfl in_H ty_H_ok k_cl_DH k_ins_H k_ini_H k_bf_H ⟨by show k0 + 11 * j + 1 ≤ 200; omega, by show n0 + 67 * j + 7 ≤ 1433; omega⟩ (fun q => ?_)
    refine k_dup d_D_init_75 rfl ?_
    refine k_callN (c_H_init G l q) d_D_init_76 k_ml_H k_im_H k_ini_H mc_H_init rfl ⟨by decide +kernel, by decide +kernel, by decide +kernel⟩ ⟨Nat.le_of_ble_eq_true rfl, Nat.le_of_ble_eq_true rfl⟩ ⟨by show k0 + 11 * j + 1 + 10 ≤ 200; omega, by show n0 + 67 * j + 7 + 60 ≤ 1433; omega⟩ (Nat.le_of_ble_eq_true rfl) (fun w1 hw => ?_)
    obtain ⟨a1, rfl, rfl⟩ := hw
    refine k_perm (ws' := [(h0, .inr (0, fs)), (qp, k_arr G 14 1 j a)] ++ k_held G a1 ++ (Y ++ k_pool G (1 + j) a)) k_mv ?_
    refine k_aast (q0 := 1) (qk := 2) (i := j) (N := 14) (v := a1 0) (vs := [.ref (a1 1), .ref (a1 2), .ref (a1 3), .ref (a1 4), .int (nI 0), .int (nI 0), .int (nI 0)]) (f := fun k => if k < j then some (a (1 + k) 0) else none) d_D_init_79 rfl rfl ⟨by omega, by decide⟩ ?_
    have hb : ∀ i, i < 1 + j → (fun i => if i = 1 + j then a1 else a i) i = a i := fun i hi => if_neg (by omega)
    have hbj : (fun i => if i = 1 + j then a1 else a i) (1 + j) = a1 := if_pos rfl
    generalize (fun i => if i = 1 + j then a1 else a i) = b at hb hbj
    subst hbj
    refine k_iinc (v := nI (j + 1)) d_D_init_80 lg1 (nI_add j 1) (ls1r) ?_
    refine k_goto (tgt := 61) d_D_init_83 rfl ?_
    refine k_eq (ws' := [(h0, .inr (0, fs)), (qp, k_arr G 14 1 (j + 1) b)] ++ k_held G (b (1 + j)) ++ (Y ++ k_pool G (1 + j) a)) (k' := k0 + 11 * (j + 1)) (n' := n0 + 67 * (j + 1)) (by rw [← k_arr_up hb]; rfl) (by show k0 + 11 * j + 1 + 10 = _; omega) (by show n0 + 67 * j + 7 + 60 = _; omega) ?_
    refine k_perm (ws' := (h0, .inr (0, fs)) :: (qp, k_arr G 14 1 (j + 1) b) :: (Y ++ k_pool G (1 + (j + 1)) b)) ?_ (ih (j + 1) b (by omega) (fun i hi => by rw [hb i (by omega)]; exact ha i hi))
    rw [show 1 + (j + 1) = (1 + j) + 1 by omega, k_pool_succ hb, ← List.append_assoc]
    exact (List.perm_append_comm).append_left [(h0, .inr (0, fs)), (qp, k_arr G 14 1 (j + 1) b)]
set_option maxRecDepth 100000 in
set_option maxHeartbeats 4000000 in
theorem k_loop2 {G : g_G} {l : Launch} {A : Nat → Prop} {P : va_W → Prop} {h0 qp k0 n0 : Nat} {fs : List Value} {Y : va_W} (a0 : Nat → Nat → Nat) (hf : fs[9]? = some (.ref qp)) (hk0 : k0 + 22 ≤ 200) (hn0 : n0 + 134 ≤ 1433)
    (kx : ∀ a : Nat → Nat → Nat, (∀ i, i < 15 → a i = a0 i) → KW G (k_I G l k_rm_D A P) b_D_init R_D 120 [some (.ref h0), some (.int (nI 2))] [] ((h0, .inr (0, fs)) :: (qp, k_arr G 2 15 2 a) :: (Y ++ k_pool G 17 a)) (k0 + 22) (n0 + 134)) :
    ∀ (d j : Nat) (a : Nat → Nat → Nat), j + d = 2 → (∀ i, i < 15 → a i = a0 i) → KW G (k_I G l k_rm_D A P) b_D_init R_D 96 [some (.ref h0), some (.int (nI j))] [] ((h0, .inr (0, fs)) :: (qp, k_arr G 2 15 j a) :: (Y ++ k_pool G (15 + j) a)) (k0 + 11 * j) (n0 + 67 * j) := by
  intro d
  induction d with
  | zero =>
    intro j a hj ha
    have hj : j = 2 := by omega
    subst hj
    refine k_iload_n (i := 1) d_D_init_96 rfl lg1 ?_
    refine k_iconst (v := nI 2) d_D_init_97 (by decide +kernel) ?_
    refine k_icmp_ge (tgt := 120) d_D_init_98 rfl (fun _ => ?_) (fun h => absurd (Int32.le_refl _) h)
    exact kx a ha
  | succ d ih =>
    intro j a hj ha
    refine k_iload_n (i := 1) d_D_init_96 rfl lg1 ?_
    refine k_iconst (v := nI 2) d_D_init_97 (by decide +kernel) ?_
    refine k_icmp_ge (tgt := 120) d_D_init_98 rfl (fun h => ?_) (fun _ => ?_)
    · exact absurd ((nI_leI (by decide) (by omega)).mp h) (by omega)
    refine k_aload_n (i := 0) d_D_init_101 rfl lg0 ?_
    refine k_get (q0 := 0) (ci := 0) (f := 9) (N := 18) (T := T_D) (Cn := R_D) (fs := fs) d_D_init_102 rfl rfl in_D (by decide) rfl (g_use (List.mem_of_getElem? (i := 130) (by decide +kernel)) rfl) hf ?_
    refine k_iload_n (i := 1) d_D_init_105 rfl lg1 ?_
    refine k_new (ci := 2) (N := 7) (T := T_H) (ty := ty_H) (fs := [.null, .null, .null, .null, .int (nI 0), .int (nI 0), .int (nI 0)]) d_D_init_106 rfl in_H ty_H_ok k_cl_DH k_ins_H k_ini_H k_bf_H ⟨by show k0 + 11 * j + 1 ≤ 200; omega, by show n0 + 67 * j + 7 ≤ 1433; omega⟩ (fun q => ?_)
    refine k_dup d_D_init_109 rfl ?_
    refine k_callN (c_H_init G l q) d_D_init_110 k_ml_H k_im_H k_ini_H mc_H_init rfl ⟨by decide +kernel, by decide +kernel, by decide +kernel⟩ ⟨Nat.le_of_ble_eq_true rfl, Nat.le_of_ble_eq_true rfl⟩ ⟨by show k0 + 11 * j + 1 + 10 ≤ 200; omega, by show n0 + 67 * j + 7 + 60 ≤ 1433; omega⟩ (Nat.le_of_ble_eq_true rfl) (fun w1 hw => ?_)
    obtain ⟨a1, rfl, rfl⟩ := hw
    refine k_perm (ws' := [(h0, .inr (0, fs)), (qp, k_arr G 2 15 j a)] ++ k_held G a1 ++ (Y ++ k_pool G (15 + j) a)) k_mv ?_
    refine k_aast (q0 := 1) (qk := 2) (i := j) (N := 2) (v := a1 0) (vs := [.ref (a1 1), .ref (a1 2), .ref (a1 3), .ref (a1 4), .int (nI 0), .int (nI 0), .int (nI 0)]) (f := fun k => if k < j then some (a (15 + k) 0) else none) d_D_init_113 rfl rfl ⟨by omega, by decide⟩ ?_
    have hb : ∀ i, i < 15 + j → (fun i => if i = 15 + j then a1 else a i) i = a i := fun i hi => if_neg (by omega)
    have hbj : (fun i => if i = 15 + j then a1 else a i) (15 + j) = a1 := if_pos rfl
    generalize (fun i => if i = 15 + j then a1 else a i) = b at hb hbj
    subst hbj
    refine k_iinc (v := nI (j + 1)) d_D_init_114 lg1 (nI_add j 1) (ls1r) ?_
    refine k_goto (tgt := 96) d_D_init_117 rfl ?_
    refine k_eq (ws' := [(h0, .inr (0, fs)), (qp, k_arr G 2 15 (j + 1) b)] ++ k_held G (b (15 + j)) ++ (Y ++ k_pool G (15 + j) a)) (k' := k0 + 11 * (j + 1)) (n' := n0 + 67 * (j + 1)) (by rw [← k_arr_up hb]; rfl) (by show k0 + 11 * j + 1 + 10 = _; omega) (by show n0 + 67 * j + 7 + 60 = _; omega) ?_
    refine k_perm (ws' := (h0, .inr (0, fs)) :: (qp, k_arr G 2 15 (j + 1) b) :: (Y ++ k_pool G (15 + (j + 1)) b)) ?_ (ih (j + 1) b (by omega) (fun i hi => by rw [hb i (by omega)]; exact ha i hi))
    rw [show 15 + (j + 1) = (15 + j) + 1 by omega, k_pool_succ hb, ← List.append_assoc]
    exact (List.perm_append_comm).append_left [(h0, .inr (0, fs)), (qp, k_arr G 2 15 (j + 1) b)]
def k_dyk (G : g_G) (c : Nat → Nat) (a : Nat → Nat → Nat) : va_W := ((((((((c 0, .inr (0, [.ref (c 1), .int (nI 0), .ref (c 3), .ref (c 4), .ref (c 5), .ref (a 0 0), .ref (c 6), .int (nI 0), .int (nI 0), .ref (c 7), .int (nI 0), .long 0, .ref (c 8), .ref (c 9), .ref (c 10), .ref (c 11), .ref (c 12), .ref (c 13)])) :: (c 7, k_arr G 2 15 2 a) :: (((c 6, k_arr G 14 1 14 a) :: [(c 1, .inr (1, [.ref (c 2), .int (nI 0)])), (c 2, g_int G 48 k_z), (c 3, g_int G 6 k_z), (c 4, g_int G 6 k_z), (c 5, g_int G 6 k_z)]) ++ k_pool G 17 a)) ++ [(c 8, g_int G 6 k_z)]) ++ [(c 9, g_int G 5 k_z)]) ++ [(c 10, g_int G 7 k_z)]) ++ [(c 11, g_int G 64 k_z)]) ++ [(c 12, g_int G 64 k_z)]) ++ [(c 13, g_int G 64 k_z)])
set_option maxRecDepth 100000 in
set_option maxHeartbeats 4000000 in
theorem c_D_init (G : g_G) (l : Launch) (h0 : Nat) : k_C G l y_D_init b_D_init 2 k_rm_D h0 k_bl_D (fun ws => ∃ (c : Nat → Nat) (a : Nat → Nat → Nat), c 0 = h0 ∧ ws = k_dyk G c a) := by
  refine k_C.of (own := R_D) (lv := [some (.ref h0), none]) (by decide +kernel) rfl rfl rfl (by decide) (fun A => ?_)
  refine k_aload_n (i := 0) d_D_init_0 rfl lg0 ?_
  refine k_objInit d_D_init_1 k_oi_D ⟨Nat.le_of_ble_eq_true rfl, Nat.le_of_ble_eq_true rfl⟩ ?_
  refine k_aload_n (i := 0) d_D_init_4 rfl lg0 ?_
  refine k_new (ci := 1) (N := 2) (T := T_S) (ty := ty_S) (fs := [.null, .int (nI 0)]) d_D_init_5 rfl in_S ty_S_ok k_cl_DS k_ins_S k_ini_S k_bf_S ⟨Nat.le_of_ble_eq_true rfl, Nat.le_of_ble_eq_true rfl⟩ (fun q => ?_)
  refine k_dup d_D_init_8 rfl ?_
  refine k_callN (c_S_init G l q) d_D_init_9 k_ml_S k_im_S k_ini_S mc_S_init rfl ⟨by decide +kernel, by decide +kernel, by decide +kernel⟩ ⟨Nat.le_of_ble_eq_true rfl, Nat.le_of_ble_eq_true rfl⟩ ⟨Nat.le_of_ble_eq_true rfl, Nat.le_of_ble_eq_true rfl⟩ (Nat.le_of_ble_eq_true rfl) (fun w1 hw => ?_)
  obtain ⟨ql, rfl⟩ := hw
  refine k_put (q0 := 0) (ci := 0) (f := 0) (N := 18) (T := T_D) (ty0 := ty_D) d_D_init_12 rfl rfl in_D ty_D_ok nm_D (by decide) rfl (g_use (List.mem_of_getElem? (i := 121) (by decide +kernel)) rfl) rfl (ty_D_ok 0 (by decide)) rfl rfl (Nat.le_of_ble_eq_true rfl) ?_
  refine k_eq (ws' := [(h0, .inr (0, [.ref q, .int (nI 0), .null, .null, .null, .null, .null, .int (nI 0), .int (nI 0), .null, .int (nI 0), .long 0, .null, .null, .null, .null, .null, .null])), (q, .inr (1, [.ref ql, .int (nI 0)])), (ql, g_int G 48 k_z)]) (k' := 2) (n' := 50) rfl rfl rfl ?_
  refine k_aload_n (i := 0) d_D_init_15 rfl lg0 ?_
  refine k_bipush (v := nI 6) d_D_init_16 (by decide +kernel) ?_
  refine k_newa (N := 6) d_D_init_18 (by decide) ⟨Nat.le_of_ble_eq_true rfl, Nat.le_of_ble_eq_true rfl⟩ (fun qg => ?_)
  refine k_put (q0 := 0) (ci := 0) (f := 2) (N := 18) (T := T_D) (ty0 := ty_D) d_D_init_20 rfl rfl in_D ty_D_ok nm_D (by decide) rfl (g_use (List.mem_of_getElem? (i := 123) (by decide +kernel)) rfl) rfl (ty_D_ok 2 (by decide)) rfl rfl (Nat.le_of_ble_eq_true rfl) ?_
  refine k_eq (ws' := [(h0, .inr (0, [.ref q, .int (nI 0), .ref qg, .null, .null, .null, .null, .int (nI 0), .int (nI 0), .null, .int (nI 0), .long 0, .null, .null, .null, .null, .null, .null])), (q, .inr (1, [.ref ql, .int (nI 0)])), (ql, g_int G 48 k_z), (qg, g_int G 6 k_z)]) (k' := 3) (n' := 56) rfl rfl rfl ?_
  refine k_aload_n (i := 0) d_D_init_23 rfl lg0 ?_
  refine k_bipush (v := nI 6) d_D_init_24 (by decide +kernel) ?_
  refine k_newa (N := 6) d_D_init_26 (by decide) ⟨Nat.le_of_ble_eq_true rfl, Nat.le_of_ble_eq_true rfl⟩ (fun qw => ?_)
  refine k_put (q0 := 0) (ci := 0) (f := 3) (N := 18) (T := T_D) (ty0 := ty_D) d_D_init_28 rfl rfl in_D ty_D_ok nm_D (by decide) rfl (g_use (List.mem_of_getElem? (i := 124) (by decide +kernel)) rfl) rfl (ty_D_ok 3 (by decide)) rfl rfl (Nat.le_of_ble_eq_true rfl) ?_
  refine k_eq (ws' := [(h0, .inr (0, [.ref q, .int (nI 0), .ref qg, .ref qw, .null, .null, .null, .int (nI 0), .int (nI 0), .null, .int (nI 0), .long 0, .null, .null, .null, .null, .null, .null])), (q, .inr (1, [.ref ql, .int (nI 0)])), (ql, g_int G 48 k_z), (qg, g_int G 6 k_z), (qw, g_int G 6 k_z)]) (k' := 4) (n' := 62) rfl rfl rfl ?_
  refine k_aload_n (i := 0) d_D_init_31 rfl lg0 ?_
  refine k_bipush (v := nI 6) d_D_init_32 (by decide +kernel) ?_
  refine k_newa (N := 6) d_D_init_34 (by decide) ⟨Nat.le_of_ble_eq_true rfl, Nat.le_of_ble_eq_true rfl⟩ (fun qk => ?_)
  refine k_put (q0 := 0) (ci := 0) (f := 4) (N := 18) (T := T_D) (ty0 := ty_D) d_D_init_36 rfl rfl in_D ty_D_ok nm_D (by decide) rfl (g_use (List.mem_of_getElem? (i := 125) (by decide +kernel)) rfl) rfl (ty_D_ok 4 (by decide)) rfl rfl (Nat.le_of_ble_eq_true rfl) ?_
  refine k_eq (ws' := [(h0, .inr (0, [.ref q, .int (nI 0), .ref qg, .ref qw, .ref qk, .null, .null, .int (nI 0), .int (nI 0), .null, .int (nI 0), .long 0, .null, .null, .null, .null, .null, .null])), (q, .inr (1, [.ref ql, .int (nI 0)])), (ql, g_int G 48 k_z), (qg, g_int G 6 k_z), (qw, g_int G 6 k_z), (qk, g_int G 6 k_z)]) (k' := 5) (n' := 68) rfl rfl rfl ?_
  refine k_aload_n (i := 0) d_D_init_39 rfl lg0 ?_
  refine k_new (ci := 2) (N := 7) (T := T_H) (ty := ty_H) (fs := [.null, .null, .null, .null, .int (nI 0), .int (nI 0), .int (nI 0)]) d_D_init_40 rfl in_H ty_H_ok k_cl_DH k_ins_H k_ini_H k_bf_H ⟨Nat.le_of_ble_eq_true rfl, Nat.le_of_ble_eq_true rfl⟩ (fun q9 => ?_)
  refine k_dup d_D_init_43 rfl ?_
  refine k_callN (c_H_init G l q9) d_D_init_44 k_ml_H k_im_H k_ini_H mc_H_init rfl ⟨by decide +kernel, by decide +kernel, by decide +kernel⟩ ⟨Nat.le_of_ble_eq_true rfl, Nat.le_of_ble_eq_true rfl⟩ ⟨Nat.le_of_ble_eq_true rfl, Nat.le_of_ble_eq_true rfl⟩ (Nat.le_of_ble_eq_true rfl) (fun w1 hw => ?_)
  obtain ⟨a1, rfl, rfl⟩ := hw
  refine k_put (q0 := 0) (ci := 0) (f := 5) (N := 18) (T := T_D) (ty0 := ty_D) d_D_init_47 rfl rfl in_D ty_D_ok nm_D (by decide) rfl (g_use (List.mem_of_getElem? (i := 126) (by decide +kernel)) rfl) rfl (ty_D_ok 5 (by decide)) rfl rfl (Nat.le_of_ble_eq_true rfl) ?_
  refine k_eq (ws' := [(h0, .inr (0, [.ref q, .int (nI 0), .ref qg, .ref qw, .ref qk, .ref (a1 0), .null, .int (nI 0), .int (nI 0), .null, .int (nI 0), .long 0, .null, .null, .null, .null, .null, .null])), (q, .inr (1, [.ref ql, .int (nI 0)])), (ql, g_int G 48 k_z), (qg, g_int G 6 k_z), (qw, g_int G 6 k_z), (qk, g_int G 6 k_z)] ++ k_pool G 1 (fun _ => a1)) (k' := 16) (n' := 135) rfl rfl rfl ?_
  refine k_aload_n (i := 0) d_D_init_50 rfl lg0 ?_
  refine k_bipush (v := nI 14) d_D_init_51 (by decide +kernel) ?_
  refine k_newq (N := 14) d_D_init_53 k_cl_DH (by decide) ⟨Nat.le_of_ble_eq_true rfl, Nat.le_of_ble_eq_true rfl⟩ (fun qp => ?_)
  refine k_put (q0 := 0) (ci := 0) (f := 6) (N := 18) (T := T_D) (ty0 := ty_D) d_D_init_56 rfl rfl in_D ty_D_ok nm_D (by decide) rfl (g_use (List.mem_of_getElem? (i := 127) (by decide +kernel)) rfl) rfl (ty_D_ok 6 (by decide)) rfl rfl (Nat.le_of_ble_eq_true rfl) ?_
  refine k_eq (ws' := (([(h0, .inr (0, [.ref q, .int (nI 0), .ref qg, .ref qw, .ref qk, .ref (a1 0), .ref qp, .int (nI 0), .int (nI 0), .null, .int (nI 0), .long 0, .null, .null, .null, .null, .null, .null]))] ++ [(q, .inr (1, [.ref ql, .int (nI 0)])), (ql, g_int G 48 k_z), (qg, g_int G 6 k_z), (qw, g_int G 6 k_z), (qk, g_int G 6 k_z)]) ++ k_pool G 1 (fun _ => a1)) ++ [(qp, k_arr G 14 1 0 (fun _ => a1))]) (k' := 17) (n' := 149) rfl rfl rfl ?_
  refine k_perm (ws' := (h0, .inr (0, [.ref q, .int (nI 0), .ref qg, .ref qw, .ref qk, .ref (a1 0), .ref qp, .int (nI 0), .int (nI 0), .null, .int (nI 0), .long 0, .null, .null, .null, .null, .null, .null])) :: (qp, k_arr G 14 1 0 (fun _ => a1)) :: ([(q, .inr (1, [.ref ql, .int (nI 0)])), (ql, g_int G 48 k_z), (qg, g_int G 6 k_z), (qw, g_int G 6 k_z), (qk, g_int G 6 k_z)] ++ k_pool G 1 (fun _ => a1))) ?_ ?_
  · rw [List.append_assoc]
    exact k_mv (X := [(h0, .inr (0, [.ref q, .int (nI 0), .ref qg, .ref qw, .ref qk, .ref (a1 0), .ref qp, .int (nI 0), .int (nI 0), .null, .int (nI 0), .long 0, .null, .null, .null, .null, .null, .null]))]) (Z := [(qp, k_arr G 14 1 0 (fun _ => a1))])
  refine k_iconst (v := nI 0) d_D_init_59 (by decide +kernel) ?_
  refine k_istore_n (i := 1) d_D_init_60 rfl ls1r ?_
  refine k_loop1 (k0 := 17) (n0 := 149) (fun _ => a1) rfl (by decide) (by decide) (fun a ha => ?_) 14 0 (fun _ => a1) rfl (fun _ _ => rfl)
  have ha1 : a1 = a 0 := (ha 0 (by decide)).symm
  subst ha1
  refine k_aload_n (i := 0) d_D_init_86 rfl lg0 ?_
  refine k_iconst (v := nI 2) d_D_init_87 (by decide +kernel) ?_
  refine k_newq (N := 2) d_D_init_88 k_cl_DH (by decide) ⟨Nat.le_of_ble_eq_true rfl, Nat.le_of_ble_eq_true rfl⟩ (fun qs => ?_)
  refine k_put (q0 := 0) (ci := 0) (f := 9) (N := 18) (T := T_D) (ty0 := ty_D) d_D_init_91 rfl rfl in_D ty_D_ok nm_D (by decide) rfl (g_use (List.mem_of_getElem? (i := 130) (by decide +kernel)) rfl) rfl (ty_D_ok 9 (by decide)) rfl rfl (Nat.le_of_ble_eq_true rfl) ?_
  refine k_eq (ws' := ([(h0, .inr (0, [.ref q, .int (nI 0), .ref qg, .ref qw, .ref qk, .ref (a 0 0), .ref qp, .int (nI 0), .int (nI 0), .ref qs, .int (nI 0), .long 0, .null, .null, .null, .null, .null, .null]))] ++ (((qp, k_arr G 14 1 14 a) :: [(q, .inr (1, [.ref ql, .int (nI 0)])), (ql, g_int G 48 k_z), (qg, g_int G 6 k_z), (qw, g_int G 6 k_z), (qk, g_int G 6 k_z)]) ++ k_pool G 15 a)) ++ [(qs, k_arr G 2 15 0 a)]) (k' := 172) (n' := 1089) rfl rfl rfl ?_
  refine k_perm (ws' := (h0, .inr (0, [.ref q, .int (nI 0), .ref qg, .ref qw, .ref qk, .ref (a 0 0), .ref qp, .int (nI 0), .int (nI 0), .ref qs, .int (nI 0), .long 0, .null, .null, .null, .null, .null, .null])) :: (qs, k_arr G 2 15 0 a) :: (((qp, k_arr G 14 1 14 a) :: [(q, .inr (1, [.ref ql, .int (nI 0)])), (ql, g_int G 48 k_z), (qg, g_int G 6 k_z), (qw, g_int G 6 k_z), (qk, g_int G 6 k_z)]) ++ k_pool G 15 a)) (k_mv (X := [(h0, .inr (0, [.ref q, .int (nI 0), .ref qg, .ref qw, .ref qk, .ref (a 0 0), .ref qp, .int (nI 0), .int (nI 0), .ref qs, .int (nI 0), .long 0, .null, .null, .null, .null, .null, .null]))]) (Z := [(qs, k_arr G 2 15 0 a)])) ?_
  refine k_iconst (v := nI 0) d_D_init_94 (by decide +kernel) ?_
  refine k_istore_n (i := 1) d_D_init_95 rfl ls1r ?_
  refine k_loop2 (k0 := 172) (n0 := 1089) (Y := (qp, k_arr G 14 1 14 a) :: [(q, .inr (1, [.ref ql, .int (nI 0)])), (ql, g_int G 48 k_z), (qg, g_int G 6 k_z), (qw, g_int G 6 k_z), (qk, g_int G 6 k_z)]) a rfl (by decide) (by decide) (fun b hb => ?_) 2 0 a rfl (fun _ _ => rfl)
  have hpa : k_arr G 14 1 14 a = k_arr G 14 1 14 b := by
    unfold k_arr
    congr 7
    funext k
    by_cases e : k < 14
    · rw [if_pos e, if_pos e, hb (1 + k) (by omega)]
    · rw [if_neg e, if_neg e]
  rw [hpa, ← hb 0 (by decide)]
  refine k_aload_n (i := 0) d_D_init_120 rfl lg0 ?_
  refine k_bipush (v := nI 6) d_D_init_121 (by decide +kernel) ?_
  refine k_newa (N := 6) d_D_init_123 (by decide) ⟨Nat.le_of_ble_eq_true rfl, Nat.le_of_ble_eq_true rfl⟩ (fun r8 => ?_)
  refine k_put (q0 := 0) (ci := 0) (f := 12) (N := 18) (T := T_D) (ty0 := ty_D) d_D_init_125 rfl rfl in_D ty_D_ok nm_D (by decide) rfl (g_use (List.mem_of_getElem? (i := 133) (by decide +kernel)) rfl) rfl (ty_D_ok 12 (by decide)) rfl rfl (Nat.le_of_ble_eq_true rfl) ?_
  refine k_eq (ws' := (((h0, .inr (0, [.ref q, .int (nI 0), .ref qg, .ref qw, .ref qk, .ref (b 0 0), .ref qp, .int (nI 0), .int (nI 0), .ref qs, .int (nI 0), .long 0, .ref r8, .null, .null, .null, .null, .null])) :: (qs, k_arr G 2 15 2 b) :: (((qp, k_arr G 14 1 14 b) :: [(q, .inr (1, [.ref ql, .int (nI 0)])), (ql, g_int G 48 k_z), (qg, g_int G 6 k_z), (qw, g_int G 6 k_z), (qk, g_int G 6 k_z)]) ++ k_pool G 17 b)) ++ [(r8, g_int G 6 k_z)])) (k' := 195) (n' := 1229) rfl rfl rfl ?_
  refine k_aload_n (i := 0) d_D_init_128 rfl lg0 ?_
  refine k_iconst (v := nI 5) d_D_init_129 (by decide +kernel) ?_
  refine k_newa (N := 5) d_D_init_130 (by decide) ⟨Nat.le_of_ble_eq_true rfl, Nat.le_of_ble_eq_true rfl⟩ (fun r9 => ?_)
  refine k_put (q0 := 0) (ci := 0) (f := 13) (N := 18) (T := T_D) (ty0 := ty_D) d_D_init_132 rfl rfl in_D ty_D_ok nm_D (by decide) rfl (g_use (List.mem_of_getElem? (i := 134) (by decide +kernel)) rfl) rfl (ty_D_ok 13 (by decide)) rfl rfl (Nat.le_of_ble_eq_true rfl) ?_
  refine k_eq (ws' := ((((h0, .inr (0, [.ref q, .int (nI 0), .ref qg, .ref qw, .ref qk, .ref (b 0 0), .ref qp, .int (nI 0), .int (nI 0), .ref qs, .int (nI 0), .long 0, .ref r8, .ref r9, .null, .null, .null, .null])) :: (qs, k_arr G 2 15 2 b) :: (((qp, k_arr G 14 1 14 b) :: [(q, .inr (1, [.ref ql, .int (nI 0)])), (ql, g_int G 48 k_z), (qg, g_int G 6 k_z), (qw, g_int G 6 k_z), (qk, g_int G 6 k_z)]) ++ k_pool G 17 b)) ++ [(r8, g_int G 6 k_z)]) ++ [(r9, g_int G 5 k_z)])) (k' := 196) (n' := 1234) rfl rfl rfl ?_
  refine k_aload_n (i := 0) d_D_init_135 rfl lg0 ?_
  refine k_bipush (v := nI 7) d_D_init_136 (by decide +kernel) ?_
  refine k_newa (N := 7) d_D_init_138 (by decide) ⟨Nat.le_of_ble_eq_true rfl, Nat.le_of_ble_eq_true rfl⟩ (fun r10 => ?_)
  refine k_put (q0 := 0) (ci := 0) (f := 14) (N := 18) (T := T_D) (ty0 := ty_D) d_D_init_140 rfl rfl in_D ty_D_ok nm_D (by decide) rfl (g_use (List.mem_of_getElem? (i := 135) (by decide +kernel)) rfl) rfl (ty_D_ok 14 (by decide)) rfl rfl (Nat.le_of_ble_eq_true rfl) ?_
  refine k_eq (ws' := (((((h0, .inr (0, [.ref q, .int (nI 0), .ref qg, .ref qw, .ref qk, .ref (b 0 0), .ref qp, .int (nI 0), .int (nI 0), .ref qs, .int (nI 0), .long 0, .ref r8, .ref r9, .ref r10, .null, .null, .null])) :: (qs, k_arr G 2 15 2 b) :: (((qp, k_arr G 14 1 14 b) :: [(q, .inr (1, [.ref ql, .int (nI 0)])), (ql, g_int G 48 k_z), (qg, g_int G 6 k_z), (qw, g_int G 6 k_z), (qk, g_int G 6 k_z)]) ++ k_pool G 17 b)) ++ [(r8, g_int G 6 k_z)]) ++ [(r9, g_int G 5 k_z)]) ++ [(r10, g_int G 7 k_z)])) (k' := 197) (n' := 1241) rfl rfl rfl ?_
  refine k_aload_n (i := 0) d_D_init_143 rfl lg0 ?_
  refine k_bipush (v := nI 64) d_D_init_144 (by decide +kernel) ?_
  refine k_newa (N := 64) d_D_init_146 (by decide) ⟨Nat.le_of_ble_eq_true rfl, Nat.le_of_ble_eq_true rfl⟩ (fun r11 => ?_)
  refine k_put (q0 := 0) (ci := 0) (f := 15) (N := 18) (T := T_D) (ty0 := ty_D) d_D_init_148 rfl rfl in_D ty_D_ok nm_D (by decide) rfl (g_use (List.mem_of_getElem? (i := 136) (by decide +kernel)) rfl) rfl (ty_D_ok 15 (by decide)) rfl rfl (Nat.le_of_ble_eq_true rfl) ?_
  refine k_eq (ws' := ((((((h0, .inr (0, [.ref q, .int (nI 0), .ref qg, .ref qw, .ref qk, .ref (b 0 0), .ref qp, .int (nI 0), .int (nI 0), .ref qs, .int (nI 0), .long 0, .ref r8, .ref r9, .ref r10, .ref r11, .null, .null])) :: (qs, k_arr G 2 15 2 b) :: (((qp, k_arr G 14 1 14 b) :: [(q, .inr (1, [.ref ql, .int (nI 0)])), (ql, g_int G 48 k_z), (qg, g_int G 6 k_z), (qw, g_int G 6 k_z), (qk, g_int G 6 k_z)]) ++ k_pool G 17 b)) ++ [(r8, g_int G 6 k_z)]) ++ [(r9, g_int G 5 k_z)]) ++ [(r10, g_int G 7 k_z)]) ++ [(r11, g_int G 64 k_z)])) (k' := 198) (n' := 1305) rfl rfl rfl ?_
  refine k_aload_n (i := 0) d_D_init_151 rfl lg0 ?_
  refine k_bipush (v := nI 64) d_D_init_152 (by decide +kernel) ?_
  refine k_newa (N := 64) d_D_init_154 (by decide) ⟨Nat.le_of_ble_eq_true rfl, Nat.le_of_ble_eq_true rfl⟩ (fun r12 => ?_)
  refine k_put (q0 := 0) (ci := 0) (f := 16) (N := 18) (T := T_D) (ty0 := ty_D) d_D_init_156 rfl rfl in_D ty_D_ok nm_D (by decide) rfl (g_use (List.mem_of_getElem? (i := 137) (by decide +kernel)) rfl) rfl (ty_D_ok 16 (by decide)) rfl rfl (Nat.le_of_ble_eq_true rfl) ?_
  refine k_eq (ws' := (((((((h0, .inr (0, [.ref q, .int (nI 0), .ref qg, .ref qw, .ref qk, .ref (b 0 0), .ref qp, .int (nI 0), .int (nI 0), .ref qs, .int (nI 0), .long 0, .ref r8, .ref r9, .ref r10, .ref r11, .ref r12, .null])) :: (qs, k_arr G 2 15 2 b) :: (((qp, k_arr G 14 1 14 b) :: [(q, .inr (1, [.ref ql, .int (nI 0)])), (ql, g_int G 48 k_z), (qg, g_int G 6 k_z), (qw, g_int G 6 k_z), (qk, g_int G 6 k_z)]) ++ k_pool G 17 b)) ++ [(r8, g_int G 6 k_z)]) ++ [(r9, g_int G 5 k_z)]) ++ [(r10, g_int G 7 k_z)]) ++ [(r11, g_int G 64 k_z)]) ++ [(r12, g_int G 64 k_z)])) (k' := 199) (n' := 1369) rfl rfl rfl ?_
  refine k_aload_n (i := 0) d_D_init_159 rfl lg0 ?_
  refine k_bipush (v := nI 64) d_D_init_160 (by decide +kernel) ?_
  refine k_newa (N := 64) d_D_init_162 (by decide) ⟨Nat.le_of_ble_eq_true rfl, Nat.le_of_ble_eq_true rfl⟩ (fun r13 => ?_)
  refine k_put (q0 := 0) (ci := 0) (f := 17) (N := 18) (T := T_D) (ty0 := ty_D) d_D_init_164 rfl rfl in_D ty_D_ok nm_D (by decide) rfl (g_use (List.mem_of_getElem? (i := 138) (by decide +kernel)) rfl) rfl (ty_D_ok 17 (by decide)) rfl rfl (Nat.le_of_ble_eq_true rfl) ?_
  refine k_eq (ws' := ((((((((h0, .inr (0, [.ref q, .int (nI 0), .ref qg, .ref qw, .ref qk, .ref (b 0 0), .ref qp, .int (nI 0), .int (nI 0), .ref qs, .int (nI 0), .long 0, .ref r8, .ref r9, .ref r10, .ref r11, .ref r12, .ref r13])) :: (qs, k_arr G 2 15 2 b) :: (((qp, k_arr G 14 1 14 b) :: [(q, .inr (1, [.ref ql, .int (nI 0)])), (ql, g_int G 48 k_z), (qg, g_int G 6 k_z), (qw, g_int G 6 k_z), (qk, g_int G 6 k_z)]) ++ k_pool G 17 b)) ++ [(r8, g_int G 6 k_z)]) ++ [(r9, g_int G 5 k_z)]) ++ [(r10, g_int G 7 k_z)]) ++ [(r11, g_int G 64 k_z)]) ++ [(r12, g_int G 64 k_z)]) ++ [(r13, g_int G 64 k_z)])) (k' := 200) (n' := 1433) rfl rfl rfl ?_
  exact k_vret d_D_init_167 ⟨fun i => if i = 0 then h0 else if i = 1 then q else if i = 2 then ql else if i = 3 then qg else if i = 4 then qw else if i = 5 then qk else if i = 6 then qp else if i = 7 then qs else if i = 8 then r8 else if i = 9 then r9 else if i = 10 then r10 else if i = 11 then r11 else if i = 12 then r12 else r13, b, rfl, rfl⟩ ⟨Nat.le_of_ble_eq_true rfl, Nat.le_of_ble_eq_true rfl⟩
