/-! Constructors: a world that grows, its cells in a list; the judgement KW and its rows; contracts and calls. -/
theorem k_oi2 : Cond.instanceMethod Lib.objectInit ∈ lw_use := g_use (List.mem_of_getElem? (i := 65) (by decide +kernel)) rfl
theorem k_oi3 : Cond.code Lib.objectInit ⟨#[0xb1]⟩ 1 none ∈ lw_use := g_use (List.mem_of_getElem? (i := 66) (by decide +kernel)) rfl
theorem k_aci : Cond.arrayClass .int ∈ lw_use := g_use (List.mem_of_getElem? (i := 82) (by decide +kernel)) rfl
theorem k_acz : Cond.arrayClass .boolean ∈ lw_use := g_use (List.mem_of_getElem? (i := 544) (by decide +kernel)) rfl
theorem k_ini_S : Cond.initialized R_S ∈ lw_use := g_use (List.mem_of_getElem? (i := 53) (by decide +kernel)) rfl
theorem k_ins_S : Cond.instantiable R_S 2 ∈ lw_use := g_use (List.mem_of_getElem? (i := 68) (by decide +kernel)) rfl
theorem k_oi_S : Cond.methodLink R_S 3 Lib.objectInit ∈ lw_use := g_use (List.mem_of_getElem? (i := 72) (by decide +kernel)) rfl
theorem k_im_S : Cond.instanceMethod y_S_init ∈ lw_use := g_use (List.mem_of_getElem? (i := 70) (by decide +kernel)) rfl
theorem k_ini_H : Cond.initialized R_H ∈ lw_use := g_use (List.mem_of_getElem? (i := 54) (by decide +kernel)) rfl
theorem k_ins_H : Cond.instantiable R_H 7 ∈ lw_use := g_use (List.mem_of_getElem? (i := 84) (by decide +kernel)) rfl
theorem k_oi_H : Cond.methodLink R_H 3 Lib.objectInit ∈ lw_use := g_use (List.mem_of_getElem? (i := 88) (by decide +kernel)) rfl
theorem k_im_H : Cond.instanceMethod y_H_init ∈ lw_use := g_use (List.mem_of_getElem? (i := 86) (by decide +kernel)) rfl
theorem k_ini_D : Cond.initialized R_D ∈ lw_use := g_use (List.mem_of_getElem? (i := 52) (by decide +kernel)) rfl
theorem k_ins_D : Cond.instantiable R_D 18 ∈ lw_use := g_use (List.mem_of_getElem? (i := 60) (by decide +kernel)) rfl
theorem k_oi_D : Cond.methodLink R_D 1 Lib.objectInit ∈ lw_use := g_use (List.mem_of_getElem? (i := 64) (by decide +kernel)) rfl
theorem k_im_D : Cond.instanceMethod y_D_init ∈ lw_use := g_use (List.mem_of_getElem? (i := 62) (by decide +kernel)) rfl
theorem k_ini_M : Cond.initialized R_M ∈ lw_use := g_use (List.mem_of_getElem? (i := 55) (by decide +kernel)) rfl
theorem k_ins_M : Cond.instantiable R_M 24 ∈ lw_use := g_use (List.mem_of_getElem? (i := 466) (by decide +kernel)) rfl
theorem k_oi_M : Cond.methodLink R_M 1 Lib.objectInit ∈ lw_use := g_use (List.mem_of_getElem? (i := 470) (by decide +kernel)) rfl
theorem k_im_M : Cond.instanceMethod y_M_init ∈ lw_use := g_use (List.mem_of_getElem? (i := 468) (by decide +kernel)) rfl
theorem k_ml_S : Cond.methodLinkNest R_D 9 y_S_init "DykeFarms" ∈ lw_use := g_use (List.mem_of_getElem? (i := 69) (by decide +kernel)) rfl
theorem k_ml_H : Cond.methodLinkNest R_D 28 y_H_init "DykeFarms" ∈ lw_use := g_use (List.mem_of_getElem? (i := 85) (by decide +kernel)) rfl
theorem k_ml_D : Cond.methodLink "DykeFarmsLaw" 9 y_D_init ∈ lw_use := g_use (List.mem_of_getElem? (i := 61) (by decide +kernel)) rfl
theorem k_ml_M : Cond.methodLink "DykeFarmsLaw" 12 y_M_init ∈ lw_use := g_use (List.mem_of_getElem? (i := 467) (by decide +kernel)) rfl
theorem k_cl_LD : Cond.classLink "DykeFarmsLaw" 7 "DykeFarms" ∈ lw_use := g_use (List.mem_of_getElem? (i := 59) (by decide +kernel)) rfl
theorem k_cl_DS : Cond.classLink "DykeFarms" 7 "DykeFarms$Script" ∈ lw_use := g_use (List.mem_of_getElem? (i := 67) (by decide +kernel)) rfl
theorem k_cl_DH : Cond.classLink "DykeFarms" 26 "DykeFarms$Held" ∈ lw_use := g_use (List.mem_of_getElem? (i := 83) (by decide +kernel)) rfl
theorem k_cl_HO : Cond.classLink "DykeFarms$Held" 21 "[[I" ∈ lw_use := g_use (List.mem_of_getElem? (i := 89) (by decide +kernel)) rfl
theorem k_cl_LM : Cond.classLink "DykeFarmsLaw" 10 "DykeFarmsModel" ∈ lw_use := g_use (List.mem_of_getElem? (i := 465) (by decide +kernel)) rfl
abbrev k_z : Nat → Nat := fun _ => 0
abbrev k_X : Type := Launch × Room × (Nat → Prop) × (Program → Env → State → MethodId → Array Value → List Frame → Method → Code → (State → Prop) → Prop)
def k_Cx (G : g_G) (X : k_X) (p : Program) (s : State) (m : MethodId) (args : Array Value) (meth : Method) (c : Code) (cc : ByteArray) (own : String) : Prop :=
  p.tables.exec = Jvm.exec ∧ c.code = cc ∧ s.vm.findClass own = some m.cls ∧ (∀ w ∈ lw_use, w.before args s = true) ∧ va_K G.1 g_cl (g_tys G) s ∧ (mm_K G.2.1.2.2.2 G.2.1.1 s ∧ va_AO R_H s) ∧ (∀ q, s.heap.size ≤ q → X.2.2.1 q) ∧ meth.locks = false
def KW (G : g_G) (X : k_X) (cc : ByteArray) (own : String) (pc : Nat) (lv : List (Option Value)) (st : List Value) (ws : va_W) (k n : Nat) : Prop :=
  ∀ (p : Program) (e : Env) (s : State) (m : MethodId) (args : Array Value) (below : List Frame) (meth : Method) (c : Code) (Q : State → Prop), k_Cx G X p s m args meth c cc own → X.2.2.2 p e s m args below meth c Q →
    ∀ (H : Heap) (locs : List Loc) (ls : Array Slot), g_lv c ls lv → va_P G.1 g_cl ws H → va_D X.2.2.1 ws → va_S X.2.2.1 s.heap H locs →
      W p X.1 e X.2.1 s m args below meth c H locs k n Q (F0 m pc ls st)
section KWR
variable {G : g_G} {X : k_X} {cc : ByteArray} {own : String} {pc : Nat} {lv lv' : List (Option Value)} {st : List Value} {ws : va_W} {k n : Nat}
theorem k_iconst {i : Int} {v : Int32} (hd : decode cc pc = .ok (.iconst i, 1)) (hv : Int32.ofInt i = v) (kk : KW G X cc own (pc + 1) lv (.int v :: st) ws k n) : KW G X cc own pc lv st ws k n :=
  fun p e s m args below meth c Q C K H locs ls hl hP hD hS => lv_iconst C.1 C.2.1 hd hv (kk p e s m args below meth c Q C K H locs ls hl hP hD hS)
theorem k_bipush {i : Int} {v : Int32} (hd : decode cc pc = .ok (.bipush i, 2)) (hv : (Int8.ofInt i).toInt32 = v) (kk : KW G X cc own (pc + 2) lv (.int v :: st) ws k n) : KW G X cc own pc lv st ws k n :=
  fun p e s m args below meth c Q C K H locs ls hl hP hD hS => lv_bipush C.1 C.2.1 hd hv (kk p e s m args below meth c Q C K H locs ls hl hP hD hS)
theorem k_sipush {i : Int} {v : Int32} (hd : decode cc pc = .ok (.sipush i, 3)) (hv : (Int16.ofInt i).toInt32 = v) (kk : KW G X cc own (pc + 3) lv (.int v :: st) ws k n) : KW G X cc own pc lv st ws k n :=
  fun p e s m args below meth c Q C K H locs ls hl hP hD hS => lv_sipush C.1 C.2.1 hd hv (kk p e s m args below meth c Q C K H locs ls hl hP hD hS)
theorem k_iload_n {j : Fin 4} {i : Nat} {x : Int32} (hd : decode cc pc = .ok (.iload_n j, 1)) (hi : (j : Nat) = i) (hv : lv[i]? = some (some (.int x))) (kk : KW G X cc own (pc + 1) lv (.int x :: st) ws k n) : KW G X cc own pc lv st ws k n :=
  fun p e s m args below meth c Q C K H locs ls hl hP hD hS => lv_iload_n C.1 C.2.1 hd hi (hl.at hv) (kk p e s m args below meth c Q C K H locs ls hl hP hD hS)
theorem k_istore_n {j : Fin 4} {i : Nat} {x : Int32} (hd : decode cc pc = .ok (.istore_n j, 1)) (hi : (j : Nat) = i) (hs : g_set i (.int x) lv lv') (kk : KW G X cc own (pc + 1) lv' st ws k n) : KW G X cc own pc lv (.int x :: st) ws k n :=
  fun p e s m args below meth c Q C K H locs ls hl hP hD hS => lv_istore_n C.1 C.2.1 hd hi hl.1 (hs.lt hl) rfl (fun ls' h' => kk p e s m args below meth c Q C K H locs ls' (hs.to hl.2 h') hP hD hS)
theorem k_aload_n {j : Fin 4} {i : Nat} {x : Nat} (hd : decode cc pc = .ok (.aload_n j, 1)) (hi : (j : Nat) = i) (hv : lv[i]? = some (some (.ref x))) (kk : KW G X cc own (pc + 1) lv (.ref x :: st) ws k n) : KW G X cc own pc lv st ws k n :=
  fun p e s m args below meth c Q C K H locs ls hl hP hD hS => lv_aload_n C.1 C.2.1 hd hi (hl.at hv) (kk p e s m args below meth c Q C K H locs ls hl hP hD hS)
theorem k_astore_n {j : Fin 4} {i : Nat} {x : Nat} (hd : decode cc pc = .ok (.astore_n j, 1)) (hi : (j : Nat) = i) (hs : g_set i (.ref x) lv lv') (kk : KW G X cc own (pc + 1) lv' st ws k n) : KW G X cc own pc lv (.ref x :: st) ws k n :=
  fun p e s m args below meth c Q C K H locs ls hl hP hD hS => lv_astore_n C.1 C.2.1 hd hi hl.1 (hs.lt hl) rfl (fun ls' h' => kk p e s m args below meth c Q C K H locs ls' (hs.to hl.2 h') hP hD hS)
theorem k_iinc {i : Nat} {j : Int} {x v : Int32} (hd : decode cc pc = .ok (.iinc i j, 3)) (hv : lv[i]? = some (some (.int x))) (hx : x + Int32.ofInt j = v) (hs : g_set i (.int v) lv lv') (kk : KW G X cc own (pc + 3) lv' st ws k n) : KW G X cc own pc lv st ws k n := by
  intro p e s m args below meth c Q C K H locs ls hl hP hD hS
  obtain ⟨t, hk⟩ := g_pos hv
  exact lv_iinc C.1 C.2.1 hd hl.1 hk hx (hs.lt hl) rfl (fun ls' h' => kk p e s m args below meth c Q C K H locs ls' (hs.to hl.2 h') hP hD hS)
theorem k_dup {v : Value} (hd : decode cc pc = .ok (.dup, 1)) (hc : v.category = 1) (kk : KW G X cc own (pc + 1) lv (v :: v :: st) ws k n) : KW G X cc own pc lv (v :: st) ws k n :=
  fun p e s m args below meth c Q C K H locs ls hl hP hD hS => lv_dup C.1 C.2.1 hd hc (kk p e s m args below meth c Q C K H locs ls hl hP hD hS)
theorem k_goto {off : Int} {tgt : Nat} (hd : decode cc pc = .ok (.goto off, 3)) (ht : (pc : Int) + off = (tgt : Int)) (kk : KW G X cc own tgt lv st ws k n) : KW G X cc own pc lv st ws k n :=
  fun p e s m args below meth c Q C K H locs ls hl hP hD hS => lv_goto C.1 C.2.1 hd ht (kk p e s m args below meth c Q C K H locs ls hl hP hD hS)
theorem k_icmp_ge {x y : Int32} {off : Int} {tgt : Nat} (hd : decode cc pc = .ok (.if_icmp .ge off, 3)) (ht : (pc : Int) + off = (tgt : Int)) (kt : y ≤ x → KW G X cc own tgt lv st ws k n) (kf : ¬ y ≤ x → KW G X cc own (pc + 3) lv st ws k n) : KW G X cc own pc lv (.int y :: .int x :: st) ws k n :=
  fun p e s m args below meth c Q C K H locs ls hl hP hD hS => lv_icmp_ge C.1 C.2.1 hd ht (fun h => kt h p e s m args below meth c Q C K H locs ls hl hP hD hS) (fun h => kf h p e s m args below meth c Q C K H locs ls hl hP hD hS)
theorem k_objInit {i a : Nat} (hd : decode cc pc = .ok (.invokespecial i, 3)) (hl1 : Cond.methodLink own i Lib.objectInit ∈ lw_use) (hR : 1 ≤ X.2.1.frames ∧ 12 ≤ X.2.1.locals) (kk : KW G X cc own (pc + 3) lv [] ws k n) : KW G X cc own pc lv [.ref a] ws k n :=
  fun p e s m args below meth c Q C K H locs ls hl hP hD hS => W.objInit C.1 C.2.1 C.2.2.1 (C.2.2.2.1 _ hl1) (C.2.2.2.1 _ k_oi2) (C.2.2.2.1 _ k_oi3) rfl hl.1.1 rfl hd hR.1 hR.2 (W.eq (g2 := F0 m (pc + 3) ls []) rfl (kk p e s m args below meth c Q C K H locs ls hl hP hD hS))
/-- an int array -/
theorem k_newa {N : Nat} (hd : decode cc pc = .ok (.newarray .int, 2)) (hN : N ≤ 1000) (hr : k + 1 ≤ X.2.1.cells ∧ n + N ≤ X.2.1.slots) (kk : ∀ q : Nat, KW G X cc own (pc + 2) lv (.ref q :: st) (ws ++ [(q, g_int G N k_z)]) (k + 1) (n + N)) : KW G X cc own pc lv (.int (nI N) :: st) ws k n := by
  intro p e s m args below meth c Q C K H locs ls hl hP hD hS
  have hc : (nI N).toNatClampNeg = N := nI_clamp (by omega)
  refine va_newa (atype := .int) (ty := .int) (a0 := (N, .inl (fun _ => nI 0))) C.1 C.2.1 (C.2.2.2.1 _ k_aci) rfl C.2.2.2.2.1 hP hD hS C.2.2.2.2.2.2.1 (fun cA => ?_) (n := nI N) (N' := N) (fun h => (nI_in (N := N + 1) (Nat.lt_succ_self N) (by omega)) (Or.inl h)) hc (by show N * 4 ≤ 536870912; omega) hr.1 hr.2 hd (fun q cA H1 hK1 hP1 hD1 hS1 => ?_)
  · rw [vp_cell_i, nI_0]
    rfl
  · have h1 : s.vm.findClass "[I" = some cA := (hK1.2 4 _ rfl).2
    have h2 : s.vm.findClass "[I" = some G.2.1.1 := (C.2.2.2.2.1.2 0 _ rfl).2
    cases h1.symm.trans h2
    exact kk q p e s m args below meth c Q C K H1 locs ls hl hP1 hD1 hS1
/-- the boolean array -/
theorem k_newz (hd : decode cc pc = .ok (.newarray .boolean, 2)) (hr : k + 1 ≤ X.2.1.cells ∧ n + 2 ≤ X.2.1.slots) (kk : ∀ q : Nat, KW G X cc own (pc + 2) lv (.ref q :: st) (ws ++ [(q, .inl (G.2.1.2.1, 2, .inl (fun _ => nI 0)))]) (k + 1) (n + 2)) : KW G X cc own pc lv (.int (nI 2) :: st) ws k n := by
  intro p e s m args below meth c Q C K H locs ls hl hP hD hS
  refine va_newa (atype := .boolean) (ty := .boolean) (a0 := (2, .inl (fun _ => nI 0))) C.1 C.2.1 (C.2.2.2.1 _ k_acz) rfl C.2.2.2.2.1 hP hD hS C.2.2.2.2.2.2.1 (fun cA => ?_) (n := nI 2) (N' := 2) (by decide +kernel) (by decide +kernel) (by show 2 * _ ≤ 536870912; decide +kernel) hr.1 hr.2 hd (fun q cA H1 hK1 hP1 hD1 hS1 => ?_)
  · rw [vp_cell_i, nI_0]
    rfl
  · have h1 : s.vm.findClass "[Z" = some cA := (hK1.2 4 _ rfl).2
    have h2 : s.vm.findClass "[Z" = some G.2.1.2.1 := (C.2.2.2.2.1.2 1 _ rfl).2
    cases h1.symm.trans h2
    exact kk q p e s m args below meth c Q C K H1 locs ls hl hP1 hD1 hS1
/-- an array of Helds -/
theorem k_newq {i N : Nat} (hd : decode cc pc = .ok (.anewarray i, 3)) (hl1 : Cond.classLink own i R_H ∈ lw_use) (hN : N ≤ 1000) (hr : k + 1 ≤ X.2.1.cells ∧ n + N ≤ X.2.1.slots) (kk : ∀ q : Nat, KW G X cc own (pc + 3) lv (.ref q :: st) (ws ++ [(q, .inl (G.2.1.2.2.1, N, .inr (.inr (.inr (.inr (fun _ => none))))))]) (k + 1) (n + N)) : KW G X cc own pc lv (.int (nI N) :: st) ws k n := by
  intro p e s m args below meth c Q C K H locs ls hl hP hD hS
  have hc : (nI N).toNatClampNeg = N := nI_clamp (by omega)
  refine va_newq (C := R_H) C.1 C.2.1 C.2.2.1 (C.2.2.2.1 _ hl1) C.2.2.2.2.2.1.2 C.2.2.2.2.1 hP hD hS C.2.2.2.2.2.2.1 (n := nI N) (N' := N) (fun h => (nI_in (N := N + 1) (Nat.lt_succ_self N) (by omega)) (Or.inl h)) hc (by omega) hr.1 hr.2 hd (fun q cA H1 hK1 hP1 hD1 hS1 => ?_)
  obtain ⟨_, _, _, _, _, h1⟩ := (hK1.2 4 _ rfl).2
  obtain ⟨_, _, _, _, _, h2⟩ := (C.2.2.2.2.1.2 2 _ rfl).2
  cases h1.symm.trans h2
  exact kk q p e s m args below meth c Q C K H1 locs ls hl hP1 hD1 hS1
/-- the six rows of owed, and the array of them: side by side -/
def k_six (G : g_G) (q : Nat) : va_W := [(q, .inl (G.2.1.2.2.2, 6, .inr (.inr (.inr (.inr (fun j => some (q + 1 + j))))))), (q + 1, g_int G 6 k_z), (q + 2, g_int G 6 k_z), (q + 3, g_int G 6 k_z), (q + 4, g_int G 6 k_z), (q + 5, g_int G 6 k_z), (q + 6, g_int G 6 k_z)]
theorem k_six_get {G : g_G} {q i : Nat} {x : Nat × va_E} (h : (k_six G q)[i]? = some x) : x.1 = q + i ∧ i < 7 := by
  have hi : i < 7 := (List.getElem?_eq_some_iff.mp h).1
  refine ⟨?_, hi⟩
  rcases (show i = 0 ∨ i = 1 ∨ i = 2 ∨ i = 3 ∨ i = 4 ∨ i = 5 ∨ i = 6 by omega) with rfl | rfl | rfl | rfl | rfl | rfl | rfl <;> (cases h; rfl)
theorem k_multi {i : Nat} (hd : decode cc pc = .ok (.multianewarray i 2, 4)) (hl1 : Cond.classLink own i "[[I" ∈ lw_use) (hr : k + 7 ≤ X.2.1.cells ∧ n + 42 ≤ X.2.1.slots) (kk : ∀ q : Nat, KW G X cc own (pc + 4) lv (.ref q :: st) (ws ++ k_six G q) (k + 7) (n + 42)) : KW G X cc own pc lv (.int (nI 6) :: .int (nI 6) :: st) ws k n := by
  intro p e s m args below meth c Q C K H locs ls hl hP hD hS
  have h6 : (nI 6).toNatClampNeg = 6 := nI_clamp (by decide)
  refine mm_W (n := nI 6) (k := nI 6) C.1 C.2.1 C.2.2.2.2.2.1.1 C.2.2.1 (C.2.2.2.1 _ hl1) rfl hd rfl (by decide +kernel) (by decide +kernel) (by decide +kernel) (by decide +kernel) (by rw [h6]; exact hr.1) (by rw [h6]; exact hr.2) (fun H1 z1 o1 f1 r1 => ?_)
  rw [h6] at z1 o1 r1
  rw [h6]
  have hk : ∀ (i : Nat) (x : Nat × va_E), ws[i]? = some x → H1[x.1]? = H[x.1]? := fun i x hx => f1 x.1 ((hP i x hx).lt)
  refine kk H.size p e s m args below meth c Q C K H1 locs ls hl ((hP.kept hk).app (fun i x hx => ?_)) (va_D.app hD ⟨fun i j x y hx hy e => ?_, fun i x hx => ?_⟩ (fun i j x y hx hy e => ?_)) ⟨Nat.le_trans hS.1 (by omega), fun x h1 h2 => (f1 x (Nat.lt_of_lt_of_le h1 hS.1)).trans (hS.2.1 x h1 h2), hS.2.2⟩
  · obtain ⟨e1, hi⟩ := k_six_get hx
    have hin : ∀ j, j < 6 → va_at G.1 g_cl (H.size + 1 + j, g_int G 6 k_z) H1 := fun j hj => by
      show H1[H.size + 1 + j]? = some (vp_cell _ _)
      rw [r1 j hj]
      show some (arrV _ 6 (fun _ => Value.int 0)) = some (arrV _ 6 (fun _ => Value.int (nI 0)))
      rw [nI_0]
    rcases (show i = 0 ∨ i = 1 ∨ i = 2 ∨ i = 3 ∨ i = 4 ∨ i = 5 ∨ i = 6 by omega) with rfl | rfl | rfl | rfl | rfl | rfl | rfl
    · cases hx
      show H1[H.size]? = some (vp_cell _ _)
      rw [o1, vp_cell_q]
      unfold mm_out arrV
      congr 2
    · cases hx; exact hin 0 (by decide)
    · cases hx; exact hin 1 (by decide)
    · cases hx; exact hin 2 (by decide)
    · cases hx; exact hin 3 (by decide)
    · cases hx; exact hin 4 (by decide)
    · cases hx; exact hin 5 (by decide)
  · have h1 := (k_six_get hx).1
    have h2 := (k_six_get hy).1
    omega
  · have h1 := (k_six_get hx).1
    exact C.2.2.2.2.2.2.1 _ (Nat.le_trans hS.1 (by omega))
  · have h1 := (hP i x hx).lt
    have h2 := (k_six_get hy).1
    omega
/-- a new object -/
theorem k_new {ci N i : Nat} {Cn : String} {T : u_T} {ty : Nat → FieldType} {fs : List Value} (hd : decode cc pc = .ok (.new i, 3)) (hc : g_cl[ci]? = some (Cn, T, N)) (hin : ∀ w ∈ u_ws Cn T N, w ∈ lw_use) (hty : ∀ k, k < N → parseFieldDescriptor (T k).2.2.1 = some (ty k)) (hl1 : Cond.classLink own i Cn ∈ lw_use) (h2 : Cond.instantiable Cn N ∈ lw_use) (h3 : Cond.initialized Cn ∈ lw_use)
    (hfs : ∀ j, j < N → defaultValue (ty j) = vp_V fs j) (hr : k + 1 ≤ X.2.1.cells ∧ n + N ≤ X.2.1.slots) (kk : ∀ q : Nat, KW G X cc own (pc + 3) lv (.ref q :: st) (ws ++ [(q, .inr (ci, fs))]) (k + 1) (n + N)) : KW G X cc own pc lv st ws k n :=
  fun p e s m args below meth c Q C K H locs ls hl hP hD hS => va_new (ci := ci) (fs := fs) (C := Cn) (T := T) (N := N) C.1 C.2.1 C.2.2.2.1 hin ty hty C.2.2.1 (C.2.2.2.1 _ hl1) (C.2.2.2.1 _ h2) (C.2.2.2.1 _ h3) C.2.2.2.2.1 hP hD hS C.2.2.2.2.2.2.1 hc hfs hr.1 hr.2 hd (fun q H1 hP1 hD1 hS1 => kk q p e s m args below meth c Q C K H1 locs ls hl hP1 hD1 hS1)
/-- a field read -/
theorem k_get {q0 ci N i f a : Nat} {Cn : String} {T : u_T} {fs : List Value} {v : Value} (hd : decode cc pc = .ok (.getfield i, 3)) (he : ws[q0]? = some (a, .inr (ci, fs))) (hc : g_cl[ci]? = some (Cn, T, N)) (hin : ∀ w ∈ u_ws Cn T N, w ∈ lw_use) (hf : f < N) (hT : (T f).1 = Cn) (hlink : Cond.fieldLink own i Cn (T f).2.1 (T f).2.2.1 ∈ lw_use) (hv : fs[f]? = some v)
    (kk : KW G X cc own (pc + 3) lv (v :: st) ws k n) : KW G X cc own pc lv (.ref a :: st) ws k n :=
  fun p e s m args below meth c Q C K H locs ls hl hP hD hS => va_get C.1 C.2.1 C.2.2.2.1 hin C.2.2.1 C.2.2.2.2.1 hP q0 he hc f hf (C.2.2.2.1 _ hlink) (fun x hx => by rw [← hT]; exact hx) hv hd (kk p e s m args below meth c Q C K H locs ls hl hP hD hS)
/-- an array of Helds: a store -/
theorem k_aast {q0 qk N i a v : Nat} {vs : List Value} {f : Nat → Option Nat} (hd : decode cc pc = .ok (.aastore, 1)) (ha : ws[q0]? = some (a, .inl (G.2.1.2.2.1, N, .inr (.inr (.inr (.inr f)))))) (hv : ws[qk]? = some (v, .inr (2, vs))) (hi : i < N ∧ N ≤ 1000)
    (kk : KW G X cc own (pc + 1) lv st (ws.set q0 (a, .inl (G.2.1.2.2.1, N, .inr (.inr (.inr (.inr (va_up f i (some v)))))))) k n) : KW G X cc own pc lv (.ref v :: .int (nI i) :: .ref a :: st) ws k n := by
  intro p e s m args below meth c Q C K H locs ls hl hP hD hS
  have hc : (nI i).toNatClampNeg = i := nI_clamp (by omega)
  refine va_astq (r := (R_H, T_H, 7)) (ci := 2) (vs := vs) C.1 C.2.1 C.2.2.2.2.1 hP hD hS q0 2 qk ha rfl hv rfl (vp_in_nI hi.1 (by omega)) hd (fun H1 locs1 hP1 hD1 hS1 => ?_)
  rw [hc] at hP1 hD1
  exact kk p e s m args below meth c Q C K H1 locs1 ls hl hP1 hD1 hS1
/-- the cells in another order -/
theorem va_D_nodup {A : Nat → Prop} {ws : va_W} (h : va_D A ws) : (ws.map Prod.fst).Nodup := by
  unfold List.Nodup
  rw [List.pairwise_iff_getElem]
  intro i j hi hj hij e
  rw [List.getElem_map, List.getElem_map] at e
  have := h.1 i j _ _ (List.getElem?_eq_getElem (by simpa using hi)) (List.getElem?_eq_getElem (by simpa using hj)) e
  omega
theorem va_D_of {A : Nat → Prop} {ws : va_W} (h : (ws.map Prod.fst).Nodup) (hA : ∀ q ∈ ws, A q.1) : va_D A ws := by
  refine ⟨fun i j p q hp hq e => ?_, fun k q hq => hA q (List.mem_of_getElem? hq)⟩
  unfold List.Nodup at h
  rw [List.pairwise_iff_getElem] at h
  obtain ⟨hi, ep⟩ := List.getElem?_eq_some_iff.mp hp
  obtain ⟨hj, eq⟩ := List.getElem?_eq_some_iff.mp hq
  rcases Nat.lt_trichotomy i j with h1 | h1 | h1
  · exact absurd (by rw [List.getElem_map, List.getElem_map, ep, eq]; exact e) (h i j (by simpa using hi) (by simpa using hj) h1)
  · exact h1
  · exact absurd (by rw [List.getElem_map, List.getElem_map, ep, eq]; exact e.symm) (h j i (by simpa using hj) (by simpa using hi) h1)
theorem va_P_perm {D : va_G} {cl : List vw_C} {ws ws' : va_W} {H : Heap} (h : ws'.Perm ws) (hP : va_P D cl ws H) : va_P D cl ws' H := fun k q hq => by
  obtain ⟨i, hi⟩ := List.getElem?_of_mem (h.mem_iff.mp (List.mem_of_getElem? hq))
  exact hP i q hi
theorem va_D_perm {A : Nat → Prop} {ws ws' : va_W} (h : ws'.Perm ws) (hD : va_D A ws) : va_D A ws' :=
  va_D_of ((List.Perm.nodup_iff (h.map Prod.fst)).mpr (va_D_nodup hD)) (fun q hq => by
    obtain ⟨i, hi⟩ := List.getElem?_of_mem (h.mem_iff.mp hq)
    exact hD.2 i q hi)
theorem k_perm {ws' : va_W} (h : ws'.Perm ws) (kk : KW G X cc own pc lv st ws' k n) : KW G X cc own pc lv st ws k n :=
  fun p e s m args below meth c Q C K H locs ls hl hP hD hS => kk p e s m args below meth c Q C K H locs ls hl (va_P_perm h hP) (va_D_perm h hD) hS
end KWR
/-! contracts of constructors -/
def k_E (G : g_G) (A : Nat → Prop) (ws : va_W) (t : State) : Prop := va_P G.1 g_cl ws t.heap ∧ va_D A ws
def k_B (G : g_G) (sz : Nat) (ws : va_W) (U : State) : Prop := U.heap.size = sz ∧ va_P G.1 g_cl ws U.heap ∧ va_K G.1 g_cl (g_tys G) U ∧ va_D (fun _ => True) ws ∧ (mm_K G.2.1.2.2.2 G.2.1.1 U ∧ va_AO R_H U) ∧ g_Nw U
def k_C (G : g_G) (l : Launch) (y : MethodName) (cc : ByteArray) (maxL : Nat) (R : Room) (h0 : Nat) (b : va_E) (P : va_W → Prop) : Prop :=
  ∀ sz : Nat, Met l y (Cond.code y cc maxL none :: lw_good) R (va_Pc [.ref h0] (k_B G sz [(h0, b)])) (va_Qv P (k_E G (va_A [(h0, b)] sz)) (va_A [(h0, b)] sz)) R.cells R.slots (va_A [(h0, b)] sz)
def k_I (G : g_G) (l : Launch) (R : Room) (A : Nat → Prop) (P : va_W → Prop) : k_X :=
  (l, R, A, fun _ _ s _ args below meth _ Q => Q = MQ below (va_Qv P (k_E G A) A) args s R.cells R.slots A ∧ meth.name = "<init>" ∧ meth.sig.returnType = none)
theorem k_C.of {G : g_G} {l : Launch} {y : MethodName} {cc : ByteArray} {maxL : Nat} {R : Room} {h0 : Nat} {b : va_E} {P : va_W → Prop} {own : String} {lv : List (Option Value)}
    (hy : plainName y.cls = true) (hn : y.cls = own) (hi : y.name = "<init>") (hlv : lv = some (.ref h0) :: List.replicate (maxL - 1) none) (h1 : 1 ≤ maxL)
    (kk : ∀ A : Nat → Prop, KW G (k_I G l R A P) cc own 0 lv [] [(h0, b)] 0 0) : k_C G l y cc maxL R h0 b P := by
  intro sz
  refine Met.ofW (cc := cc) (maxL := maxL) (ret := none) hy rfl ?_
  intro p e s m args below meth c s₁ B hml hv
  obtain ⟨rfl, hsz, hP, hK, hD0, hM, hNw⟩ := hv
  have hts := atoms_spec (ws := Cond.code y cc maxL none :: lw_good) B.pre
  have hown : s.vm.findClass y.cls = some m.cls := findClass_of_methodNamed B.named
  have hin : meth.name = "<init>" := by rw [← hi]; exact (name_of_methodNamed B.named B.method).1
  subst hn
  subst hsz
  have hw : ∀ w ∈ lw_use, w.before [Value.ref h0].toArray s = true := fun w hw => by
    rcases lw_split w hw with h | h
    · exact hts w (List.mem_cons_of_mem _ (List.mem_filter.mpr ⟨hw, h⟩))
    · exact va_Nw.use (g_nest_on h) (hNw w hw h)
  have hg0 : ∀ (i j : Nat), g_ix j (List.replicate i none) = [] := by
    intro i
    induction i with
    | zero => intro j; rfl
    | succ i ih => intro j; exact ih (j + 1)
  have hl := lv_entry ([.ref h0]) (n := maxL) h1
  rw [lg_entry_eq]
  refine kk (va_A [(h0, b)] s.heap.size) p e s m _ below meth c _ ⟨B.exec, B.bytes, hown, hw, hK, hM, fun q h => Or.inr h, B.notSynchronized⟩ ⟨rfl, hin, B.returns⟩ s.heap [] _ ⟨?_, ?_⟩ hP hD0.self va_S.rf
  · rw [hml, hlv]
    show lv_has _ maxL ((0, .ref h0) :: g_ix 1 (List.replicate (maxL - 1) none))
    rw [hg0]
    exact hl
  · rw [hml, hlv]
    simp
    omega
section KCT
variable {G : g_G} {l : Launch} {R : Room} {A : Nat → Prop} {P : va_W → Prop} {cc : ByteArray} {own : String} {pc : Nat} {lv : List (Option Value)} {st : List Value} {ws : va_W} {k n : Nat} {X : k_X}
/-- a final field of the object under construction -/
theorem k_put {q0 ci N i f a : Nat} {T : u_T} {ty0 : Nat → FieldType} {fs : List Value} {v : Value} {ty : FieldType} (hd : decode cc pc = .ok (.putfield i, 3)) (he : ws[q0]? = some (a, .inr (ci, fs))) (hc : g_cl[ci]? = some (own, T, N)) (hin : ∀ w ∈ u_ws own T N, w ∈ lw_use) (hty : ∀ k, k < N → parseFieldDescriptor (T k).2.2.1 = some (ty0 k)) (hnm : ∀ a, a < N → ∀ b, b < N → a ≠ b → (T a).2.1 ≠ (T b).2.1)
    (hf : f < N) (hT : (T f).1 = own) (hlink : Cond.fieldLink own i own (T f).2.1 (T f).2.2.1 ∈ lw_use) (hfin : (T f).2.2.2 = true) (hd2 : parseFieldDescriptor (T f).2.2.1 = some ty) (hn : narrow ty v = v) (hfit : fits ty v = true) (hl0 : f < fs.length)
    (kk : KW G (k_I G l R A P) cc own (pc + 3) lv st (ws.set q0 (a, .inr (ci, fs.set f v))) k n) : KW G (k_I G l R A P) cc own pc lv (v :: .ref a :: st) ws k n :=
  fun p e s m args below meth c Q C K H locs ls hl hP hD hS => va_putF C.1 C.2.1 C.2.2.2.1 hin ty0 hty hnm C.2.2.1 C.2.2.2.2.1 hP hD hS q0 he hc f hf (C.2.2.2.1 _ hlink) (fun x hx => by rw [← hT]; exact hx) hfin K.2.1 hT hd2 hn hfit hl0 hd (fun H1 locs1 hP1 hD1 hS1 => kk p e s m args below meth c Q C K H1 locs1 ls hl hP1 hD1 hS1)
theorem k_vret (hd : decode cc pc = .ok (.return_, 1)) (h : P ws) (hr : k ≤ R.cells ∧ n ≤ R.slots) : KW G (k_I G l R A P) cc own pc lv [] ws k n := by
  intro p e s m args below meth c Q C K H locs ls hl hP hD hS
  obtain ⟨rfl, -, hret⟩ := K
  exact W.widen (k := R.cells) (n := R.slots) hr.1 hr.2 (W.vret C.1 C.2.1 hret (fun t ht _ => ⟨⟨ws, rfl, h, by rw [ht]; exact hP, hD⟩, hS.F ht⟩) hS.2.2 hd C.2.2.2.2.2.2.2)
theorem k_blind {G : g_G} {av : List Value} {sz : Nat} {ws : va_W} : FrameBlind (va_Pc av (k_B G sz ws)) := fun a U g mk q => by
  obtain ⟨q0, h1, h2, h3, h4, ⟨h5, h6⟩, h7⟩ := q
  exact ⟨q0, h1, h2, h3.moved (u := U) (U := U.calling g mk a) (Vm.Alike.refl U.vm), h4, ⟨h5.moved (u := U) (U := U.calling g mk a) (Vm.Alike.refl U.vm), h6.moved (u := U) (U := U.calling g mk a) (Vm.Alike.refl U.vm)⟩, g_Nw.same (s := U) (U := U.calling g mk a) rfl h7⟩
theorem k_Bat {p : Program} {s U : State} {m : MethodId} {args : Array Value} {meth : Method} {c : Code} {H : Heap} {wc : va_W} {B : Nat → Prop} (C : k_Cx G X p s m args meth c cc own) (hP : va_P G.1 g_cl wc H) (hD : va_D B wc) (hU : U.heap = H) (hW : s.WarmedH U.vm) : k_B G H.size wc U :=
  ⟨by rw [hU], by rw [hU]; exact hP, C.2.2.2.2.1.moved hW.alike, hD.weaken (fun _ _ _ _ => trivial), ⟨C.2.2.2.2.2.1.1.moved hW.alike, C.2.2.2.2.2.1.2.moved hW.alike⟩, g_Nw.warm hW (fun w hw hn => va_Nw.of (g_nest_on hn) (C.2.2.2.1 w hw))⟩
theorem k_last {Y : va_W} {q : Nat × va_E} : (Y ++ [q])[Y.length]? = some q := by
  rw [List.getElem?_append_right (Nat.le_refl _), Nat.sub_self]
  rfl
theorem k_join {A0 : Nat → Prop} {D : va_G} {cl : List vw_C} {Y w1 : va_W} {q : Nat} {b : va_E} {H H1 : Heap} (hP : va_P D cl (Y ++ [(q, b)]) H) (hD : va_D A0 (Y ++ [(q, b)]))
    (hk : ∀ x : Nat, x < H.size → ¬ va_A [(q, b)] H.size x → H1[x]? = H[x]?) (hF : ∀ x, va_A [(q, b)] H.size x → A0 x) (hP1 : va_P D cl w1 H1) (hD1 : va_D (va_A [(q, b)] H.size) w1) : va_P D cl (Y ++ w1) H1 ∧ va_D A0 (Y ++ w1) := by
  have hl : ∀ (i : Nat) (x : Nat × va_E), Y[i]? = some x → (Y ++ [(q, b)])[i]? = some x := fun i x hx => by
    rw [List.getElem?_append_left (List.getElem?_eq_some_iff.mp hx).1]
    exact hx
  have ap : ∀ (i : Nat) (x : Nat × va_E), Y[i]? = some x → x.1 < H.size ∧ ¬ va_A [(q, b)] H.size x.1 := fun i x hx => by
    have hlt := (hP i x (hl i x hx)).lt
    refine ⟨hlt, fun h => ?_⟩
    rcases h with ⟨t, e, h⟩ | h
    · have ht : t < 1 := (List.getElem?_eq_some_iff.mp h).1
      rw [show t = 0 by omega] at h
      have e1 : (q, b) = (x.1, e) := Option.some.inj h
      have e2 := hD.1 i Y.length x (q, b) (hl i x hx) k_last (by rw [e1])
      have := (List.getElem?_eq_some_iff.mp hx).1
      omega
    · omega
  refine ⟨va_P.app (fun i x hx => (hP i x (hl i x hx)).kept (hk x.1 (ap i x hx).1 (ap i x hx).2)) hP1, va_D.app (va_D.by hD id (fun i x hx => hl i x hx) (fun _ _ _ _ e => e)) (hD1.weaken (fun t x _ h => hF x.1 h)) (fun i j x y hx hy e => ?_)⟩
  exact (ap i x hx).2 (by rw [e]; exact hD1.2 j y hy)
variable {y : MethodName} {bytes : ByteArray} {maxL index : Nat} {R2 : Room} {Y : va_W} {q : Nat} {b : va_E} {P2 : va_W → Prop}
/-- the run of a constructor becomes a step -/
theorem k_run {p : Program} {e : Env} {s : State} {m : MethodId} {args : Array Value} {below : List Frame} {meth : Method} {c : Code} {Q : State → Prop} {H : Heap} {locs : List Loc} {ls : Array Slot} {a : Array Value} {st0 : List Value}
    (C : k_Cx G X p s m args meth c cc own) (K : X.2.2.2 p e s m args below meth c Q) (hl : g_lv c ls lv) (hP : va_P G.1 g_cl (Y ++ [(q, b)]) H) (hD : va_D X.2.2.1 (Y ++ [(q, b)])) (hS : va_S X.2.2.1 s.heap H locs)
    (hr : va_Run p X.1 e X.2.1 s m args below meth c H locs k n R2.cells R2.slots (F0 m pc ls st0) st (va_Qv P2 (k_E G (va_A [(q, b)] H.size)) (va_A [(q, b)] H.size) a) (va_A [(q, b)] H.size))
    (kk : ∀ w1, P2 w1 → KW G X cc own (pc + 3) lv st (Y ++ w1) (k + R2.cells) (n + R2.slots)) : W p X.1 e X.2.1 s m args below meth c H locs k n Q (F0 m pc ls st0) := by
  have hF : ∀ x, va_A [(q, b)] H.size x → X.2.2.1 x := fun x h => by
    rcases h with ⟨t, e, h⟩ | h
    · have ht : t < 1 := (List.getElem?_eq_some_iff.mp h).1
      rw [show t = 0 by omega] at h
      cases h
      exact hD.2 Y.length (q, b) k_last
    · exact C.2.2.2.2.2.2.1 x (Nat.le_trans hS.1 h)
  refine va_callv hr hS (fun x _ h => hF x h) hF (fun u t H1 locs1 ht hvm hw hB hz1 hk1 hS1 => ?_)
  obtain ⟨hP1, hD1⟩ := hB
  rw [ht] at hP1
  obtain ⟨hP2, hD2⟩ := k_join hP hD hk1 hF hP1 hD1
  exact kk u hw p e s m args below meth c Q C K H1 locs1 ls hl hP2 hD2 hS1
theorem k_sub1 {D : va_G} {cl : List vw_C} {H : Heap} {B : Nat → Prop} (hP : va_P D cl (Y ++ [(q, b)]) H) (hD : va_D B (Y ++ [(q, b)])) : va_P D cl [(q, b)] H ∧ va_D B [(q, b)] := by
  have hg : ∀ (i : Nat) (x : Nat × va_E), [(q, b)][i]? = some x → (Y ++ [(q, b)])[i + Y.length]? = some x := fun i x hx => by
    have hi : i < 1 := (List.getElem?_eq_some_iff.mp hx).1
    rw [show i = 0 by omega] at hx ⊢
    rw [Nat.zero_add, k_last]
    exact hx
  exact ⟨va_P.by hP _ hg, va_D.by hD _ hg (fun i j _ _ e => by omega)⟩
theorem k_call (M : k_C G X.1 y bytes maxL R2 q b P2) (hd : decode cc pc = .ok (.invokespecial index, 3)) (h1 : Cond.methodLink own index y ∈ lw_use) (h2 : Cond.instanceMethod y ∈ lw_use) (h4 : Cond.initialized y.cls ∈ lw_use) (h5 : Cond.code y bytes maxL none ∈ lw_use) (hyn : y.name = "<init>")
    (hy : y.cls ≠ "java/lang/invoke/MethodHandle" ∧ y.cls ≠ "java/lang/invoke/VarHandle" ∧ (parseMethodDescriptor y.desc).map (fun d => d.parameters.length) = some 0)
    (hR : R2.frames + 1 ≤ X.2.1.frames ∧ 8 + (maxL + 11) + R2.locals ≤ X.2.1.locals) (hf : k + R2.cells ≤ X.2.1.cells ∧ n + R2.slots ≤ X.2.1.slots) (hcat : (st.map fun v => v.category).sum ≤ 8)
    (kk : ∀ w1, P2 w1 → KW G X cc own (pc + 3) lv st (Y ++ w1) (k + R2.cells) (n + R2.slots)) : KW G X cc own pc lv (.ref q :: st) (Y ++ [(q, b)]) k n := by
  intro p e s m args below meth c Q C K H locs ls hl hP hD hS
  obtain ⟨hPc, hDc⟩ := k_sub1 hP hD
  exact k_run C K hl hP hD hS (va_runI (As := []) (rest := st) (nL := c.maxLocals) (cc := cc) (Ts := lw_use) (own := own) ⟨C.1, C.2.1, rfl, C.2.2.1, C.2.2.2.1⟩ (M H.size) (cwI 0 C.2.2.2.1 (g_ok (g_okc h5 rfl)) rfl rfl rfl (C.2.2.2.1 _ h4) (C.2.2.2.1 _ h1) (C.2.2.2.1 _ h2) hyn hy hR) ⟨k_blind, fun U hU hW => ⟨rfl, k_Bat C hPc hDc hU hW⟩⟩ rfl rfl hl.1.1 rfl (lv_room hcat) hd hf) kk
theorem k_callN {host : String} (M : k_C G X.1 y bytes maxL R2 q b P2) (hd : decode cc pc = .ok (.invokespecial index, 3)) (h1 : Cond.methodLinkNest own index y host ∈ lw_use) (h2 : Cond.instanceMethod y ∈ lw_use) (h4 : Cond.initialized y.cls ∈ lw_use) (h5 : Cond.code y bytes maxL none ∈ lw_use) (hyn : y.name = "<init>")
    (hy : y.cls ≠ "java/lang/invoke/MethodHandle" ∧ y.cls ≠ "java/lang/invoke/VarHandle" ∧ (parseMethodDescriptor y.desc).map (fun d => d.parameters.length) = some 0)
    (hR : R2.frames + 1 ≤ X.2.1.frames ∧ 8 + (maxL + 11) + R2.locals ≤ X.2.1.locals) (hf : k + R2.cells ≤ X.2.1.cells ∧ n + R2.slots ≤ X.2.1.slots) (hcat : (st.map fun v => v.category).sum ≤ 8)
    (kk : ∀ w1, P2 w1 → KW G X cc own (pc + 3) lv st (Y ++ w1) (k + R2.cells) (n + R2.slots)) : KW G X cc own pc lv (.ref q :: st) (Y ++ [(q, b)]) k n := by
  intro p e s m args below meth c Q C K H locs ls hl hP hD hS
  obtain ⟨hPc, hDc⟩ := k_sub1 hP hD
  exact k_run C K hl hP hD hS (va_runIN (As := []) (rest := st) (nL := c.maxLocals) (cc := cc) (Ts := lw_use) (own := own) ⟨C.1, C.2.1, rfl, C.2.2.1, C.2.2.2.1⟩ (M H.size) ⟨va_cnB 0 C.2.2.2.1 (g_ok (g_okc h5 rfl)) rfl rfl rfl (va_Nw.of rfl (C.2.2.2.1 _ h1)) (C.2.2.2.1 _ h4) hy hR, hyn, C.2.2.2.1 _ h2⟩ ⟨k_blind, fun U hU hW => ⟨rfl, k_Bat C hPc hDc hU hW⟩⟩ rfl rfl hl.1.1 rfl (lv_room hcat) hd hf) kk
end KCT
