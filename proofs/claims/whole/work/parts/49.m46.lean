/-! The law's head: both objects are made; whole_start; the skeleton's end. -/
def k_law (l : Launch) (s0 : State) (b L : Nat) (xs : Nat → Int32) : k_X :=
  (l, room_1, fun q => s0.heap.size ≤ q, fun p _ s m args below meth c Q => s = s0 ∧ args = #[.ref b] ∧ lw_At p s0 m meth c b L xs ∧ Q = lw_Z below #[.ref b] s0)
section LAWHEAD
variable {G : g_G} {l : Launch} {s0 : State} {b L : Nat} {xs : Nat → Int32}
theorem k_toJ {c m : Nat → Nat} {a : Nat → Nat → Nat} {k n : Nat} (hL : L ≤ 3072) (hk : k ≤ 600000) (hn : n ≤ 7302250) (hSt : ∀ x : Nat → Nat, g_St (G.1, G.2.1, x, G.2.2.2) (fun q => s0.heap.size ≤ q) s0 s0.heap) :
    KW G (k_law l s0 b L xs) code "DykeFarmsLaw" 18 [some (.ref b), some (.ref (c 0)), some (.ref (m 0)), some (.int (nI 0))] [] (k_dyk G c a ++ k_mod G m) k n := by
  intro p e s mm args below meth cc Q C K H locs ls hl hP hD hS
  obtain ⟨rfl, rfl, C0, rfl⟩ := id K
  obtain ⟨hinj, hA⟩ := k_fin_inj hD
  refine W.widen (k := 600000) (n := 7302250) hk hn ?_
  exact law_loop (G := k_G G c a m) l s b L xs hL (L + 7) 0 0 k_V k_S R_zero rfl (Nat.zero_le _) (by omega) p e s mm _ below meth cc _ ⟨C.1, C.2.1, C.2.2.1, C.2.2.2.1, C.2.2.2.2.1, hinj, hA, hSt _, C.2.2.2.2.2.2.2, C0.2.2.1⟩ ⟨rfl, rfl, C0, rfl⟩ H locs ls hl (k_fin_P hP) hS
theorem law_head (hL : L ≤ 3072) (hSt : ∀ x : Nat → Nat, g_St (G.1, G.2.1, x, G.2.2.2) (fun q => s0.heap.size ≤ q) s0 s0.heap) :
    KW G (k_law l s0 b L xs) code "DykeFarmsLaw" 0 [some (.ref b), none, none, none] [] [] 0 0 := by
  refine k_new (ci := 0) (N := 18) (T := T_D) (ty := ty_D) (fs := [.null, .int (nI 0), .null, .null, .null, .null, .null, .int (nI 0), .int (nI 0), .null, .int (nI 0), .long 0, .null, .null, .null, .null, .null, .null]) d_L_law_0 rfl in_D ty_D_ok k_cl_LD k_ins_D k_ini_D k_bf_D ⟨Nat.le_of_ble_eq_true rfl, Nat.le_of_ble_eq_true rfl⟩ (fun q => ?_)
  refine k_dup d_L_law_3 rfl ?_
  refine k_call (c_D_init G l q) d_L_law_4 k_ml_D k_im_D k_ini_D mc_D_init rfl ⟨by decide +kernel, by decide +kernel, by decide +kernel⟩ ⟨Nat.le_of_ble_eq_true rfl, Nat.le_of_ble_eq_true rfl⟩ ⟨Nat.le_of_ble_eq_true rfl, Nat.le_of_ble_eq_true rfl⟩ (Nat.le_of_ble_eq_true rfl) (fun w1 hw => ?_)
  obtain ⟨c, a, rfl, rfl⟩ := hw
  refine k_astore_n (i := 1) d_L_law_7 rfl ls1r ?_
  refine k_new (ci := 3) (N := 24) (T := T_M) (ty := ty_M) (fs := [.int (nI 0), .null, .int (nI 0), .int (nI 0), .int (nI 0), .null, .null, .null, .int (nI 0), .int (nI 0), .null, .null, .null, .null, .int (nI 0), .null, .null, .long 0, .int (nI 0), .int (nI 0), .null, .null, .int (nI 0), .int (nI 0)]) d_L_law_8 rfl in_M ty_M_ok k_cl_LM k_ins_M k_ini_M k_bf_M ⟨Nat.le_of_ble_eq_true rfl, Nat.le_of_ble_eq_true rfl⟩ (fun q => ?_)
  refine k_dup d_L_law_11 rfl ?_
  refine k_call (c_M_init G l q) d_L_law_12 k_ml_M k_im_M k_ini_M mc_M_init rfl ⟨by decide +kernel, by decide +kernel, by decide +kernel⟩ ⟨Nat.le_of_ble_eq_true rfl, Nat.le_of_ble_eq_true rfl⟩ ⟨Nat.le_of_ble_eq_true rfl, Nat.le_of_ble_eq_true rfl⟩ (Nat.le_of_ble_eq_true rfl) (fun w1 hw => ?_)
  obtain ⟨m, rfl, rfl⟩ := hw
  refine k_astore_n (i := 2) d_L_law_15 rfl ls2r ?_
  refine k_iconst (v := nI 0) d_L_law_16 (by decide +kernel) ?_
  refine k_istore_n (i := 3) d_L_law_17 rfl ls3r ?_
  exact k_toJ (a := a) hL (Nat.le_of_ble_eq_true rfl) (Nat.le_of_ble_eq_true rfl) hSt
end LAWHEAD
theorem whole_start {p : Program} {e : Env} {s : State} {m : MethodId} {below : List Frame} {meth : Method} {c : Code} (l : Launch) (hflags : l.flags = flags0) {b L : Nat} {xs : Nat → Int32} (hL : L ≤ 3072) (C0 : lw_At p s m meth c b L xs) : W p l e room_1 s m #[Value.ref b] below meth c s.heap [] 0 0 (lw_Z below #[Value.ref b] s) (entryFrame m ([Value.ref b] : List Value).toArray 4) := by
  obtain ⟨hx, hb, hr, hml, hown, hts, hX, hbl, hlocks, hgv⟩ := id C0
  have hu : ∀ w ∈ lw_use, w.before #[Value.ref b] s = true := fun w hw => hts w (List.mem_filter.mp hw).1
  obtain ⟨tG, tO, hSt⟩ := k_tabs hts hgv
  obtain ⟨c0, i0, hK0⟩ := u_known (C := R_D) (T := T_D) (N := 18) (n := 18) hu in_D (hu _ k_ins_D)
  obtain ⟨c1, i1, hK1⟩ := u_known (C := R_S) (T := T_S) (N := 2) (n := 2) hu in_S (hu _ k_ins_S)
  obtain ⟨c2, i2, hK2⟩ := u_known (C := R_H) (T := T_H) (N := 7) (n := 7) hu in_H (hu _ k_ins_H)
  obtain ⟨c3, i3, hK3⟩ := u_known (C := R_M) (T := T_M) (N := 24) (n := 24) hu in_M (hu _ k_ins_M)
  obtain ⟨dC, dI, hKc⟩ : ∃ (dC : Nat → ClassId) (dI : Nat → Nat → Nat), ∀ (k : Nat) (q : vw_C), g_cl[k]? = some q → u_Kn s q.1 q.2.1 q.2.2 (dC k) (dI k) := by
    refine ⟨fun k => if k = 0 then c0 else if k = 1 then c1 else if k = 2 then c2 else c3, fun k => if k = 0 then i0 else if k = 1 then i1 else if k = 2 then i2 else i3, ?_⟩
    intro k q hq
    match k, hq with
    | 0, hq => cases hq; exact hK0
    | 1, hq => cases hq; exact hK1
    | 2, hq => cases hq; exact hK2
    | 3, hq => cases hq; exact hK3
    | k + 4, hq => simp [g_cl] at hq
  have hov : (Cond.arrayOver (.array .int)).before #[Value.ref b] s = true := hts _ (List.mem_of_getElem? (i := 90) (by decide +kernel))
  have hoh : (Cond.arrayOver (.object R_H)).before #[Value.ref b] s = true := hts _ (List.mem_of_getElem? (i := 120) (by decide +kernel))
  obtain ⟨cO, cI, hM, hI⟩ := mm_K.of hov (hu _ k_aci)
  obtain ⟨cZ, kZ, compZ, z1, z2, z3⟩ := Cond.arrayClass_spec (hu _ k_acz)
  obtain ⟨compH, cH, kH, h1, -, h3, h4, h5⟩ := Cond.arrayOver_spec hoh
  have hAI : ArrOfT s cI .int := by
    obtain ⟨kO, kI, cc, m0, m1, m2, m3, m4⟩ := hM
    exact fun n z => ⟨fun k h => (by cases h), kI, m3, cc, m4⟩
  have hAO : ArrOfT s cO (.array .int) := by
    obtain ⟨kO, kI, cc, m0, m1, m2, m3, m4⟩ := hM
    exact fun n z => ⟨fun k h => (by cases h), kO, m1, cI, m2⟩
  have hO : s.vm.findClass "[[I" = some cO := by
    obtain ⟨kO, kI, cc, m0, -⟩ := hM
    exact m0
  have hK : va_K (dC, dI) g_cl [(cI, .int), (cZ, .boolean), (cH, .object R_H), (cO, .array .int)] s := by
    refine ⟨hKc, fun k q hq => ?_⟩
    match k, hq with
    | 0, hq => cases hq; exact ⟨hAI, hI⟩
    | 1, hq => cases hq; exact ⟨fun n z => ⟨fun k h => (by cases h), kZ, z2, compZ, z3⟩, z1⟩
    | 2, hq => cases hq; exact ⟨fun n z => ⟨fun k h => (by cases h), kH, h3, compH, h4⟩, kH, compH, h3, h4, h1, h5⟩
    | 3, hq => cases hq; exact ⟨hAO, hO⟩
    | k + 4, hq => simp at hq
  have hl := lv_entry ([.ref b]) (n := 4) (Nat.le_of_ble_eq_true rfl)
  rw [lg_entry_eq]
  refine law_head (G := ((dC, dI), (cI, cZ, cH, cO), fun _ => 0, (tG, tO))) (l := l) (s0 := s) (b := b) (L := L) (xs := xs) hL (fun x => hSt ((dC, dI), (cI, cZ, cH, cO), x)) p e s m _ below meth c _ ⟨hx, hb, hown, hu, hK, ⟨hM, va_AO.of hoh⟩, fun _ h => h, hlocks⟩ ⟨rfl, rfl, C0, rfl⟩ s.heap [] _ ⟨?_, ?_⟩ (fun k q h => by simp at h) ⟨fun i j p q h => by simp at h, fun k q h => by simp at h⟩ va_S.rf
  · rw [hml]
    exact hl
  · rw [hml]
    rfl
set_option maxHeartbeats 4000000 in
theorem lw_walk (l : Launch) (hflags : l.flags = flags0) (b : Addr) (xs : List Int32) : MetFree l x (headSpec (Jvm.Cond.code x code maxLocals ret :: tables_1) room_1) (lw_P b xs) (fun _ _ _ _ _ => True) lw_Q := by
  refine MetFree.of_bodyS (code := code) (maxLocals := maxLocals) (ret := ret) (by decide) ?_ ?_
  · intro args s m h hn
    obtain ⟨meth, c, h1, h2, h3, h4, h5, h6, -, -⟩ := Cond.code_spec hn (atoms_spec (ws := Jvm.Cond.code x code maxLocals ret :: tables_1) h _ List.mem_cons_self)
    exact ⟨meth, c, h1, h2, h3, h4, h5, h6⟩
  · intro p e s m args below meth c s₁ B hml0 hP _
    obtain ⟨rfl, hx, hbd, hgv⟩ := hP
    obtain ⟨scr, harrAt, hlist, hof, hsmall⟩ := hx
    obtain ⟨hcb, hkn, -, -⟩ := State.arrayAt?_spec harrAt
    have hown : s.vm.findClass R_law = some m.cls := findClass_of_methodNamed B.named
    have hts0 : ∀ c ∈ (Jvm.Cond.code x code maxLocals ret :: tables_1), c.before #[Value.ref b] s = true := atoms_spec (ws := Jvm.Cond.code x code maxLocals ret :: tables_1) B.pre
    have hts : ∀ w ∈ lw_tbl, w.before #[Value.ref b] s = true := k2_hts_sels lw_privs (fun w hw => hts0 w (List.mem_cons_of_mem _ hw)) lw_privs_ok
    have hml : c.maxLocals = 4 := B.maxLocals_eq (hts0 _ List.mem_cons_self)
    have X₀ : Stand p l e room_1 s m #[Value.ref b] below meth c s₁ [] 0 0 := Stand.of_body B
    have hh0 : s₁.heap = s.heap := by rw [B.state]; rfl
    have hsz : scr.slots.size = xs.length := by rw [← Array.length_toList, hlist, List.length_map]
    have hval : ∀ j : Nat, j < xs.length → scr.slots[j]? = some (.int (xs.getD j 0)) := fun j hj => by
      rw [← Array.getElem?_toList, hlist]
      simp [hj]
    have hbl : b < s.heap.size := (Array.getElem?_eq_some_iff.mp hcb).1
    have hX : va_X b xs.length (fun j => xs.getD j 0) s s.heap := ⟨scr, hcb, hof, hkn, hsz, hval⟩
    have K : W p l e room_1 s m #[Value.ref b] below meth c s₁.heap [] 0 0 (lw_Z below #[Value.ref b] s) (entryFrame m ([Value.ref b] : List Value).toArray 4) := by
      rw [hh0]
      exact whole_start l hflags hbd ⟨B.exec, B.bytes, B.returns, hml, hown, hts, hX, hbl, B.notSynchronized, hgv⟩
    obtain ⟨t, a1, o, b1, b2, b3⟩ := K s₁ rfl X₀
    exact ⟨t, o, a1, b1, b2, b3⟩
theorem lw_pre_spec {args : Array Value} {s : State} (h : (Jvm.Cond.and given_1 narrow_1).before args s = true) (hr : rest_1_c.before args s = true) : ∃ (b : Addr) (xs : List Int32), lw_P b xs args s := by
  have hs := flat_of_before _ h
  have hq := flat_of_before _ hr
  have hc : (Cond.count 1).before args s = true := hs _ (by decide +kernel)
  have harr : (Cond.arrayOf (.arg 0) .int).before args s = true := hs _ (by decide +kernel)
  have hle : (Cond.le (.length (.arg 0)) (.int 3072)).before args s = true := hs _ (by decide +kernel)
  have hlen : (Cond.isInt (.length (.arg 0))).before args s = true := hq _ (by decide +kernel)
  have hall : (Cond.all (.arg 0) (.isInt (.elem (.arg 0) (.index 0)))).before args s = true := hq _ (by decide +kernel)
  obtain ⟨b, xs, hb, hx⟩ := State.ints_of_pre rfl harr hlen hall
  have hsm : xs.length < 2 ^ 31 := hx.choose_spec.2.2.2
  have hev : (Term.length (.arg 0)).eval args s none [] s = some (.int xs.length.toInt32) := hx.length_eval hb
  have hv := Cond.le_ints hev (show (Term.int 3072).eval args s none [] s = some (.int 3072) from rfl)
  have hd : xs.length.toInt32 ≤ 3072 := by
    simpa [Cond.before, Cond.holds, hv] using hle
  have hN : xs.length ≤ 3072 := (Int32.ofNat_le_ofNat hsm (by decide)).mp (show Int32.ofNat xs.length ≤ Int32.ofNat 3072 from hd)
  exact ⟨b, xs, Cond.one_arg hc (show args[0]? = some (.ref b) from hb), hx, hN, h⟩
theorem lw_comes (l : Launch) (hflags : l.flags = flags0) : Comes l x (Jvm.Cond.code x code maxLocals ret :: tables_1) room_1 (fun tb e args s => Calls_1 tb e args s ∧ rest_1 tb e args s ∧ Pre_1 tb e args s)
    (fun _ _ args s o t => lw_Q args s o t) := by
  intro p e ha hc hk s m args below hf hfit hheap happ hpre
  obtain ⟨b, xs, hP⟩ := lw_pre_spec hpre.2.2 hpre.2.1
  obtain ⟨k, o, h1, h2, h3, hQ⟩ := lw_walk l hflags b xs p e ha hc hk s m args below hf ((Spec.applies_iff_loose hf).mp happ).1 hP trivial
  exact ⟨k, o, h1, h2, h3, hQ⟩
theorem lw_frame {s t : State} {o : Outcome} {args : Array Value} (h : Framed s o t [] 600000 7302250) :
    Framed s o t (fieldLocs frame_1_writes args s ++ arrayLocs frame_1_arrays args s ++ staticLocs frame_1_statics s) 600000 7302250 := h
theorem lw_limb (L : Cond) (hL : ∀ (args : Array Value) (s t : State), L.after args s (.returned (some (.int 1))) t = true) :
    ArmFor flags0 classFile x code maxLocals ret World_1 tables_1 room_1 Calls_1 rest_1 Pre_1
      (fun tb e a s o t => postC L tb e a s o t ∧ Framed s o t (fieldLocs frame_1_writes a s ++ arrayLocs frame_1_arrays a s ++ staticLocs frame_1_statics s) 600000 7302250) := by
  intro l hflags _ _ p e ha hc hk s m args below hf hfit hheap happ hpre
  obtain ⟨k, o, h1, h2, h3, rfl, hF⟩ := lw_comes l hflags p e ha hc hk s m args below hf hfit hheap happ hpre
  exact ⟨k, _, h1, h2, h3, hL args s _, lw_frame hF⟩
theorem i_vc : Claimed_1_1 ∧ Claimed_1_2 := ⟨lw_limb limb_1_1 (fun args s t => by simp [limb_1_1, Cond.after, Cond.holds, Cond.value]), lw_limb limb_1_2 (fun args s t => Cond.after_iff.mpr (by
  first | (rw [show limb_1_2 = Cond.eq .result (.int 1) from rfl, Cond.eq_ints (x := 1) (y := 1) rfl rfl]; simp; done) | (simp [limb_1_2, Cond.value, Term.eval]; done)))⟩
