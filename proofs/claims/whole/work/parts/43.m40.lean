/-! THE CLAIM OUT OF ONE WALK OF THE LAW'S BODY. Your part is whole_start (and what it stands on); all else here is the same for every law, but numbers. -/
def R_law : String := "DykeFarmsLaw"
def lw_P (b : Addr) (xs : List Int32) (args : Array Value) (s : State) : Prop := args = #[.ref b] ∧ s.IntsAt b xs ∧ xs.length ≤ 3072 ∧ (Jvm.Cond.and given_1 narrow_1).before args s = true
def lw_Q (_ : Array Value) (s : State) (o : Outcome) (t : State) : Prop := o = .returned (some (.int 1)) ∧ Framed s o t [] 600000 7302250
def lw_Z (below : List Frame) (a : Array Value) (s : State) : State → Prop := fun t => ∃ o, t.status = .running ∧ Ended t below o ∧ lw_Q a s o t
/-- the law's own end, with 1 on the stack, nothing written that was there before, its room as the claim has it -/
theorem lw_ret {p : Program} {l : Launch} {e : Env} {s : State} {m : MethodId} {below : List Frame} {meth : Method} {c : Code} {b : Nat} (hx : p.tables.exec = Jvm.exec) (hb : c.code = code) (hr : meth.sig.returnType = ret) (hlocks : meth.locks = false) {pc : Nat} {H : Heap} {ls : Array Slot} (hdg : decode code pc = .ok (.ireturn, 1)) : W p l e room_1 s m #[Value.ref b] below meth c H [] 600000 7302250 (lw_Z below #[Value.ref b] s) (F0 m pc ls [.int 1]) := by
  intro T hT X
  obtain ⟨fs, hret, hrun, hended, hW, hframe⟩ := X.leave (v := some (.int 1)) (hlocks := hlocks) (fun h => by rw [hr] at h; cases h)
  have hmeth' : T.vm.method? m = some meth := X.method'
  refine ⟨T.setFrames fs, ?_, .returned (some (.int 1)), hrun, hended, rfl, ⟨_, rfl⟩, hW, hframe⟩
  jvm_step X.here [X.here.top, hx, hb, hdg, hmeth', hr, ret, narrow_b1]
  (try refine ⟨rfl, ?_⟩); (try refine ⟨rfl, ?_⟩)
  first | (intro acts; rw [hret _ acts rfl rfl rfl]) | rw [hret _ _ rfl rfl rfl]
  exact Steps.refl _
/-- what holds at the law's entry: the machine, the code, the tables' words (any of lw_tbl by 'hts w (by decide +kernel)'), the script of L ints xs at the cell b, what the Statement gives of the start (any of its parts by flat_of_before) -/
def lw_At (p : Program) (s : State) (m : MethodId) (meth : Method) (c : Code) (b L : Nat) (xs : Nat → Int32) : Prop :=
  p.tables.exec = Jvm.exec ∧ c.code = code ∧ meth.sig.returnType = ret ∧ c.maxLocals = 4 ∧ s.vm.findClass R_law = some m.cls ∧ (∀ w ∈ lw_tbl, w.before #[Value.ref b] s = true) ∧ va_X b L xs s s.heap ∧ b < s.heap.size ∧ meth.locks = false ∧ (Jvm.Cond.and given_1 narrow_1).before #[Value.ref b] s = true
/-! The law's loop. -/
abbrev g_LX (l : Launch) (s0 : State) (b L : Nat) (xs : Nat → Int32) : g_X :=
  (l, room_1, ret, fun q => s0.heap.size ≤ q, (600000, 7302250), fun p _ s m args below meth c Q => s = s0 ∧ args = #[.ref b] ∧ lw_At p s0 m meth c b L xs ∧ Q = lw_Z below #[.ref b] s0)
theorem g_ftL {l : Launch} {s0 : State} {b L d2 : Nat} {xs : Nat → Int32} (h : d2 + 1 ≤ 8) : g_ft (g_LX l s0 b L xs) d2 :=
  ⟨⟨h, by show 33 * d2 + 33 ≤ 268; omega⟩, ⟨Nat.le_refl _, Nat.le_refl _⟩⟩
section LAW
variable {G : g_G} {l : Launch} {s0 : State} {b L : Nat} {xs : Nat → Int32} {cc : ByteArray} {own : String} {pc : Nat} {lv : List (Option Value)} {st : List Value} {V : g_V} {S : g_L}
theorem j_slen (hd : decode cc pc = .ok (.arraylength, 1)) (kk : JW G (g_LX l s0 b L xs) cc own (pc + 1) lv (.int (nI L) :: st) V S) : JW G (g_LX l s0 b L xs) cc own pc lv (.ref b :: st) V S := by
  intro p e s m args below meth c Q C K H locs ls hl hP hS
  obtain ⟨rfl, rfl, C0, rfl⟩ := id K
  obtain ⟨hx, hb', hr, hml, hown, hts, hX, hbl, hlocks, hgv⟩ := C0
  exact va_slen C.1 C.2.1 hX hbl (Nat.not_le.mpr hbl) hS hd (kk p e s m _ below meth c _ C K H locs ls hl hP hS)
theorem j_sld {i : Nat} (hd : decode cc pc = .ok (.iaload, 1)) (hi : i < L ∧ L ≤ 3072) (kk : JW G (g_LX l s0 b L xs) cc own (pc + 1) lv (.int (xs i) :: st) V S) : JW G (g_LX l s0 b L xs) cc own pc lv (.int (nI i) :: .ref b :: st) V S := by
  intro p e s m args below meth c Q C K H locs ls hl hP hS
  obtain ⟨rfl, rfl, C0, rfl⟩ := id K
  obtain ⟨hx, hb', hr, hml, hown, hts, hX, hbl, hlocks, hgv⟩ := C0
  refine va_sld C.1 C.2.1 hX hbl (Nat.not_le.mpr hbl) hS (vp_in_nI hi.1 (by omega)) hd ?_
  rw [nI_clamp (by omega)]
  exact kk p e s m _ below meth c _ C K H locs ls hl hP hS
theorem j_lwret (hd : decode code pc = .ok (.ireturn, 1)) : JW G (g_LX l s0 b L xs) code own pc lv [.int (nI 1)] V S := by
  intro p e s m args below meth c Q C K H locs ls hl hP hS
  obtain ⟨rfl, rfl, C0, rfl⟩ := id K
  obtain ⟨hx, hb', hr, hml, hown, hts, hX, hbl, hlocks, hgv⟩ := C0
  refine va_forget (fun q hq => hS.2.2 q hq) ?_
  exact lw_ret hx hb' hr hlocks hd
end LAW
theorem g_and31 (x : Int32) : ∃ k : Nat, k < 32 ∧ x &&& nI 31 = nI k := by
  refine ⟨(x &&& nI 31).toBitVec.toNat, ?_, ?_⟩
  · have h : (x &&& nI 31).toBitVec = x.toBitVec &&& 31#32 := rfl
    rw [h, BitVec.toNat_and]
    exact Nat.lt_of_le_of_lt Nat.and_le_right (by decide)
  · apply Int32.toBitVec_inj.1
    show _ = BitVec.ofNat 32 _
    rw [BitVec.ofNat_toNat, BitVec.setWidth_eq]
theorem g_room6 {L i : Nat} (hL : L ≤ 3072) (hi : i ≤ 3080) : nI i ≤ nI L - nI 6 ↔ i + 6 ≤ L := by
  rw [Int32.le_iff_toInt_le, nI_toInt (by omega), g_subI (by omega) (by decide)]
  omega
theorem g_cmp0 (x : Int64) : lg_cmp x x = nI 0 := by
  have hx : ¬ x > x := fun h => by
    have h2 : x < x := h
    rw [Int64.lt_iff_toInt_lt] at h2
    omega
  unfold lg_cmp
  rw [if_neg hx, if_pos rfl]
  rfl
set_option maxRecDepth 100000 in
set_option maxHeartbeats 4000000 in
theorem law_loop {G : g_G} (l : Launch) (s0 : State) (b L : Nat) (xs : Nat → Int32) (hL : L ≤ 3072) : ∀ (n : Nat) (t i : Nat) (V : g_V) (S : g_L), R t V S → i = 6 * t → i ≤ L → L + 6 - i < n → JW G (g_LX l s0 b L xs) code "DykeFarmsLaw" 18 [some (.ref b), some (.ref (g_a G 0)), some (.ref (g_a G 201)), some (.int (nI i))] [] V S := by
  intro n
  induction n with
  | zero => intro t i V S hR hi hiL hm; exact absurd hm (Nat.not_lt_zero _)
  | succ n ih =>
    intro t i V S hR hi hiL hm
    refine j_iload_n (i := 3) d_L_law_18 rfl lg3 ?_
    refine j_aload_n (i := 0) d_L_law_19 rfl lg0 ?_
    refine j_slen d_L_law_20 ?_
    refine j_bipushN (k := 6) d_L_law_21 (by decide) ?_
    refine j_isub d_L_law_23 ?_
    refine j_icmp_gt (tgt := 1134) d_L_law_24 (by decide) (fun h_24 => ?_) (fun h_24 => ?_)
    ·
      refine j_iconstN (k := 1) d_L_law_1134 (by decide) ?_
      exact j_lwret d_L_law_1135
    ·
      have hroom := (g_room6 hL (by omega)).mp (g_i_nlt h_24)
      have hO := R_ok hR (by omega)
      have ht : t < 800 := by omega
      refine j_aload_n (i := 0) d_L_law_27 rfl lg0 ?_
      refine j_iload_n (i := 3) d_L_law_28 rfl lg3 ?_
      refine j_sld d_L_law_29 (by omega) ?_
      refine j_bipushN (k := 31) d_L_law_30 (by decide) ?_
      refine j_iand d_L_law_32 ?_
      obtain ⟨k, hk, ek⟩ := g_and31 (xs i)
      rw [ek]
      have hs_33 : (nI (k)).toInt = ((k : Nat) : Int) := nI_toInt (by omega)
      by_cases h_33_0 : k = 0
      ·
        refine j_tableIn (tgt := 172) d_L_law_33 (by rw [hs_33, h_33_0]; decide) (by rw [hs_33, h_33_0]; decide) (by rw [hs_33, h_33_0]; rfl) (by decide) ?_
        refine j_aload_n (i := 1) d_L_law_172 rfl lg1 ?_
        refine j_aload_n (i := 0) d_L_law_173 rfl lg0 ?_
        refine j_iload_n (i := 3) d_L_law_174 rfl lg3 ?_
        refine j_iconstN (k := 1) d_L_law_175 (by decide) ?_
        refine j_iaddN d_L_law_176 ?_
        refine j_sld d_L_law_177 (by omega) ?_
        refine cl_L_13 (c_D_write l V S hO (xs (i + 1))) d_L_law_178 rfl rfl (g_ftL (by decide)) (Nat.le_of_ble_eq_true rfl) ?_
        rintro r V1 S1 hp
        obtain ⟨a9, rfl, hM, hnx⟩ := R_write hR ht (xs (i + 1)) hp
        refine j_aload_n (i := 2) d_L_law_181 rfl lg2 ?_
        refine j_aload_n (i := 0) d_L_law_182 rfl lg0 ?_
        refine j_iload_n (i := 3) d_L_law_183 rfl lg3 ?_
        refine j_iconstN (k := 1) d_L_law_184 (by decide) ?_
        refine j_iaddN d_L_law_185 ?_
        refine j_sld d_L_law_186 (by omega) ?_
        refine cl_L_17 (c_M_write l V1 S1 hM (xs (i + 1))) d_L_law_187 rfl rfl (g_ftL (by decide)) (Nat.le_of_ble_eq_true rfl) ?_
        rintro r2 V3 S3 hp2
        obtain ⟨rfl, hR3⟩ := hnx _ _ _ hp2
        refine j_icmp_eq (tgt := 1128) d_L_law_190 (by decide) (fun h_190 => ?_) (fun h_190 => ?_)
        ·
          refine j_iincN (k := 6) d_L_law_1128 lg3 (by decide) ls3r ?_
          refine j_goto (tgt := 18) d_L_law_1131 (by decide) ?_
          exact ih (t + 1) (i + 6) V3 S3 hR3 (by omega) (by omega) (by omega)
        ·
          exact absurd rfl h_190
      by_cases h_33_1 : k = 1
      ·
        refine j_tableIn (tgt := 195) d_L_law_33 (by rw [hs_33, h_33_1]; decide) (by rw [hs_33, h_33_1]; decide) (by rw [hs_33, h_33_1]; rfl) (by decide) ?_
        refine j_aload_n (i := 1) d_L_law_195 rfl lg1 ?_
        refine cl_L_18 (c_D_wipe l V S hO ) d_L_law_196 rfl rfl (g_ftL (by decide)) (Nat.le_of_ble_eq_true rfl) ?_
        rintro r V1 S1 hp
        obtain ⟨a9, rfl, hM, hnx⟩ := R_wipe hR ht  hp
        refine j_aload_n (i := 2) d_L_law_199 rfl lg2 ?_
        refine cl_L_22 (c_M_wipe l V1 S1 hM ) d_L_law_200 rfl rfl (g_ftL (by decide)) (Nat.le_of_ble_eq_true rfl) ?_
        rintro r2 V3 S3 hp2
        obtain ⟨rfl, hR3⟩ := hnx _ _ _ hp2
        refine j_icmp_eq (tgt := 1128) d_L_law_203 (by decide) (fun h_203 => ?_) (fun h_203 => ?_)
        ·
          refine j_iincN (k := 6) d_L_law_1128 lg3 (by decide) ls3r ?_
          refine j_goto (tgt := 18) d_L_law_1131 (by decide) ?_
          exact ih (t + 1) (i + 6) V3 S3 hR3 (by omega) (by omega) (by omega)
        ·
          exact absurd rfl h_203
      by_cases h_33_2 : k = 2
      ·
        refine j_tableIn (tgt := 208) d_L_law_33 (by rw [hs_33, h_33_2]; decide) (by rw [hs_33, h_33_2]; decide) (by rw [hs_33, h_33_2]; rfl) (by decide) ?_
        refine j_aload_n (i := 1) d_L_law_208 rfl lg1 ?_
        refine cl_L_23 (c_D_fault l V S hO ) d_L_law_209 rfl rfl (g_ftL (by decide)) (Nat.le_of_ble_eq_true rfl) ?_
        rintro r V1 S1 hp
        obtain ⟨a9, rfl, hM, hnx⟩ := R_fault hR ht  hp
        refine j_aload_n (i := 2) d_L_law_212 rfl lg2 ?_
        refine cl_L_26 (c_M_fault l V1 S1 hM.1.1.1 hM.2) d_L_law_213 rfl rfl (g_ftL (by decide)) (Nat.le_of_ble_eq_true rfl) ?_
        rintro r2 V3 S3 hp2
        obtain ⟨rfl, hR3⟩ := hnx _ _ _ hp2
        refine j_icmp_eq (tgt := 1128) d_L_law_216 (by decide) (fun h_216 => ?_) (fun h_216 => ?_)
        ·
          refine j_iincN (k := 6) d_L_law_1128 lg3 (by decide) ls3r ?_
          refine j_goto (tgt := 18) d_L_law_1131 (by decide) ?_
          exact ih (t + 1) (i + 6) V3 S3 hR3 (by omega) (by omega) (by omega)
        ·
          exact absurd rfl h_216
      by_cases h_33_3 : k = 3
      ·
        refine j_tableIn (tgt := 221) d_L_law_33 (by rw [hs_33, h_33_3]; decide) (by rw [hs_33, h_33_3]; decide) (by rw [hs_33, h_33_3]; rfl) (by decide) ?_
        refine j_aload_n (i := 1) d_L_law_221 rfl lg1 ?_
        refine cl_L_27 (c_D_dyke l V S hO ) d_L_law_222 rfl rfl (g_ftL (by decide)) (Nat.le_of_ble_eq_true rfl) ?_
        rintro r V1 S1 hp
        obtain ⟨a9, rfl, hM, hnx⟩ := R_dyke hR ht  hp
        refine j_aload_n (i := 2) d_L_law_225 rfl lg2 ?_
        refine cl_L_30 (c_M_dyke l V1 S1 hM.1.1.1 hM.2) d_L_law_226 rfl rfl (g_ftL (by decide)) (Nat.le_of_ble_eq_true rfl) ?_
        rintro r2 V3 S3 hp2
        obtain ⟨rfl, hR3⟩ := hnx _ _ _ hp2
        refine j_icmp_eq (tgt := 1128) d_L_law_229 (by decide) (fun h_229 => ?_) (fun h_229 => ?_)
        ·
          refine j_iincN (k := 6) d_L_law_1128 lg3 (by decide) ls3r ?_
          refine j_goto (tgt := 18) d_L_law_1131 (by decide) ?_
          exact ih (t + 1) (i + 6) V3 S3 hR3 (by omega) (by omega) (by omega)
        ·
          exact absurd rfl h_229
      by_cases h_33_4 : k = 4
      ·
        refine j_tableIn (tgt := 234) d_L_law_33 (by rw [hs_33, h_33_4]; decide) (by rw [hs_33, h_33_4]; decide) (by rw [hs_33, h_33_4]; rfl) (by decide) ?_
        refine j_aload_n (i := 1) d_L_law_234 rfl lg1 ?_
        refine j_aload_n (i := 0) d_L_law_235 rfl lg0 ?_
        refine j_iload_n (i := 3) d_L_law_236 rfl lg3 ?_
        refine j_iconstN (k := 1) d_L_law_237 (by decide) ?_
        refine j_iaddN d_L_law_238 ?_
        refine j_sld d_L_law_239 (by omega) ?_
        refine cl_L_31 (c_D_about l V S hO (xs (i + 1))) d_L_law_240 rfl rfl (g_ftL (by decide)) (Nat.le_of_ble_eq_true rfl) ?_
        rintro r V1 S1 hp
        obtain ⟨a9, rfl, hM, hnx⟩ := R_about hR ht (xs (i + 1)) hp
        refine j_aload_n (i := 2) d_L_law_243 rfl lg2 ?_
        refine j_aload_n (i := 0) d_L_law_244 rfl lg0 ?_
        refine j_iload_n (i := 3) d_L_law_245 rfl lg3 ?_
        refine j_iconstN (k := 1) d_L_law_246 (by decide) ?_
        refine j_iaddN d_L_law_247 ?_
        refine j_sld d_L_law_248 (by omega) ?_
        refine cl_L_34 (c_M_about l V1 S1 hM (xs (i + 1))) d_L_law_249 rfl rfl (g_ftL (by decide)) (Nat.le_of_ble_eq_true rfl) ?_
        rintro r2 V3 S3 hp2
        obtain ⟨rfl, hR3⟩ := hnx _ _ _ hp2
        refine j_icmp_eq (tgt := 1128) d_L_law_252 (by decide) (fun h_252 => ?_) (fun h_252 => ?_)
        ·
          refine j_iincN (k := 6) d_L_law_1128 lg3 (by decide) ls3r ?_
          refine j_goto (tgt := 18) d_L_law_1131 (by decide) ?_
          exact ih (t + 1) (i + 6) V3 S3 hR3 (by omega) (by omega) (by omega)
        ·
          exact absurd rfl h_252
      by_cases h_33_5 : k = 5
      ·
        refine j_tableIn (tgt := 257) d_L_law_33 (by rw [hs_33, h_33_5]; decide) (by rw [hs_33, h_33_5]; decide) (by rw [hs_33, h_33_5]; rfl) (by decide) ?_
        refine j_aload_n (i := 1) d_L_law_257 rfl lg1 ?_
        refine j_aload_n (i := 0) d_L_law_258 rfl lg0 ?_
        refine j_iload_n (i := 3) d_L_law_259 rfl lg3 ?_
        refine j_iconstN (k := 1) d_L_law_260 (by decide) ?_
        refine j_iaddN d_L_law_261 ?_
        refine j_sld d_L_law_262 (by omega) ?_
        refine j_aload_n (i := 0) d_L_law_263 rfl lg0 ?_
        refine j_iload_n (i := 3) d_L_law_264 rfl lg3 ?_
        refine j_iconstN (k := 2) d_L_law_265 (by decide) ?_
        refine j_iaddN d_L_law_266 ?_
        refine j_sld d_L_law_267 (by omega) ?_
        refine cl_L_35 (c_D_farm l V S hO (xs (i + 1)) (xs (i + 2))) d_L_law_268 rfl rfl (g_ftL (by decide)) (Nat.le_of_ble_eq_true rfl) ?_
        rintro r V1 S1 hp
        obtain ⟨a9, rfl, hM, hnx⟩ := R_farm hR ht (xs (i + 1)) (xs (i + 2)) hp
        refine j_aload_n (i := 2) d_L_law_271 rfl lg2 ?_
        refine j_aload_n (i := 0) d_L_law_272 rfl lg0 ?_
        refine j_iload_n (i := 3) d_L_law_273 rfl lg3 ?_
        refine j_iconstN (k := 1) d_L_law_274 (by decide) ?_
        refine j_iaddN d_L_law_275 ?_
        refine j_sld d_L_law_276 (by omega) ?_
        refine j_aload_n (i := 0) d_L_law_277 rfl lg0 ?_
        refine j_iload_n (i := 3) d_L_law_278 rfl lg3 ?_
        refine j_iconstN (k := 2) d_L_law_279 (by decide) ?_
        refine j_iaddN d_L_law_280 ?_
        refine j_sld d_L_law_281 (by omega) ?_
        refine cl_L_39 (c_M_farm l V1 S1 hM (xs (i + 1)) (xs (i + 2))) d_L_law_282 rfl rfl (g_ftL (by decide)) (Nat.le_of_ble_eq_true rfl) ?_
        rintro r2 V3 S3 hp2
        obtain ⟨rfl, hR3⟩ := hnx _ _ _ hp2
        refine j_icmp_eq (tgt := 1128) d_L_law_285 (by decide) (fun h_285 => ?_) (fun h_285 => ?_)
        ·
          refine j_iincN (k := 6) d_L_law_1128 lg3 (by decide) ls3r ?_
          refine j_goto (tgt := 18) d_L_law_1131 (by decide) ?_
          exact ih (t + 1) (i + 6) V3 S3 hR3 (by omega) (by omega) (by omega)
        ·
          exact absurd rfl h_285
      by_cases h_33_6 : k = 6
      ·
        refine j_tableIn (tgt := 290) d_L_law_33 (by rw [hs_33, h_33_6]; decide) (by rw [hs_33, h_33_6]; decide) (by rw [hs_33, h_33_6]; rfl) (by decide) ?_
        refine j_aload_n (i := 1) d_L_law_290 rfl lg1 ?_
        refine j_aload_n (i := 0) d_L_law_291 rfl lg0 ?_
        refine j_iload_n (i := 3) d_L_law_292 rfl lg3 ?_
        refine j_iconstN (k := 1) d_L_law_293 (by decide) ?_
        refine j_iaddN d_L_law_294 ?_
        refine j_sld d_L_law_295 (by omega) ?_
        refine j_aload_n (i := 0) d_L_law_296 rfl lg0 ?_
        refine j_iload_n (i := 3) d_L_law_297 rfl lg3 ?_
        refine j_iconstN (k := 2) d_L_law_298 (by decide) ?_
        refine j_iaddN d_L_law_299 ?_
        refine j_sld d_L_law_300 (by omega) ?_
        refine cl_L_40 (c_D_owes l V S hO (xs (i + 1)) (xs (i + 2))) d_L_law_301 rfl rfl (g_ftL (by decide)) (Nat.le_of_ble_eq_true rfl) ?_
        rintro r V1 S1 hp
        obtain ⟨a9, rfl, hM, hnx⟩ := R_owes hR ht (xs (i + 1)) (xs (i + 2)) hp
        refine j_aload_n (i := 2) d_L_law_304 rfl lg2 ?_
        refine j_aload_n (i := 0) d_L_law_305 rfl lg0 ?_
        refine j_iload_n (i := 3) d_L_law_306 rfl lg3 ?_
        refine j_iconstN (k := 1) d_L_law_307 (by decide) ?_
        refine j_iaddN d_L_law_308 ?_
        refine j_sld d_L_law_309 (by omega) ?_
        refine j_aload_n (i := 0) d_L_law_310 rfl lg0 ?_
        refine j_iload_n (i := 3) d_L_law_311 rfl lg3 ?_
        refine j_iconstN (k := 2) d_L_law_312 (by decide) ?_
        refine j_iaddN d_L_law_313 ?_
        refine j_sld d_L_law_314 (by omega) ?_
        refine cl_L_43 (c_M_owes l V1 S1 hM (xs (i + 1)) (xs (i + 2))) d_L_law_315 rfl rfl (g_ftL (by decide)) (Nat.le_of_ble_eq_true rfl) ?_
        rintro r2 V3 S3 hp2
        obtain ⟨rfl, hR3⟩ := hnx _ _ _ hp2
        refine j_icmp_eq (tgt := 1128) d_L_law_318 (by decide) (fun h_318 => ?_) (fun h_318 => ?_)
        ·
          refine j_iincN (k := 6) d_L_law_1128 lg3 (by decide) ls3r ?_
          refine j_goto (tgt := 18) d_L_law_1131 (by decide) ?_
          exact ih (t + 1) (i + 6) V3 S3 hR3 (by omega) (by omega) (by omega)
        ·
          exact absurd rfl h_318
      by_cases h_33_7 : k = 7
      ·
        refine j_tableIn (tgt := 323) d_L_law_33 (by rw [hs_33, h_33_7]; decide) (by rw [hs_33, h_33_7]; decide) (by rw [hs_33, h_33_7]; rfl) (by decide) ?_
        refine j_aload_n (i := 1) d_L_law_323 rfl lg1 ?_
        refine j_aload_n (i := 0) d_L_law_324 rfl lg0 ?_
        refine j_iload_n (i := 3) d_L_law_325 rfl lg3 ?_
        refine j_iconstN (k := 1) d_L_law_326 (by decide) ?_
        refine j_iaddN d_L_law_327 ?_
        refine j_sld d_L_law_328 (by omega) ?_
        refine cl_L_44 (c_D_storm l V S hO (xs (i + 1))) d_L_law_329 rfl rfl (g_ftL (by decide)) (Nat.le_of_ble_eq_true rfl) ?_
        rintro r V1 S1 hp
        obtain ⟨a9, rfl, hM, hnx⟩ := R_storm hR ht (xs (i + 1)) hp
        refine j_aload_n (i := 2) d_L_law_332 rfl lg2 ?_
        refine j_aload_n (i := 0) d_L_law_333 rfl lg0 ?_
        refine j_iload_n (i := 3) d_L_law_334 rfl lg3 ?_
        refine j_iconstN (k := 1) d_L_law_335 (by decide) ?_
        refine j_iaddN d_L_law_336 ?_
        refine j_sld d_L_law_337 (by omega) ?_
        refine cl_L_47 (c_M_storm l V1 S1 hM (xs (i + 1))) d_L_law_338 rfl rfl (g_ftL (by decide)) (Nat.le_of_ble_eq_true rfl) ?_
        rintro r2 V3 S3 hp2
        obtain ⟨rfl, hR3⟩ := hnx _ _ _ hp2
        refine j_icmp_eq (tgt := 1128) d_L_law_341 (by decide) (fun h_341 => ?_) (fun h_341 => ?_)
        ·
          refine j_iincN (k := 6) d_L_law_1128 lg3 (by decide) ls3r ?_
          refine j_goto (tgt := 18) d_L_law_1131 (by decide) ?_
          exact ih (t + 1) (i + 6) V3 S3 hR3 (by omega) (by omega) (by omega)
        ·
          exact absurd rfl h_341
      by_cases h_33_8 : k = 8
      ·
        refine j_tableIn (tgt := 346) d_L_law_33 (by rw [hs_33, h_33_8]; decide) (by rw [hs_33, h_33_8]; decide) (by rw [hs_33, h_33_8]; rfl) (by decide) ?_
        refine j_aload_n (i := 1) d_L_law_346 rfl lg1 ?_
        refine j_aload_n (i := 0) d_L_law_347 rfl lg0 ?_
        refine j_iload_n (i := 3) d_L_law_348 rfl lg3 ?_
        refine j_iconstN (k := 1) d_L_law_349 (by decide) ?_
        refine j_iaddN d_L_law_350 ?_
        refine j_sld d_L_law_351 (by omega) ?_
        refine j_aload_n (i := 0) d_L_law_352 rfl lg0 ?_
        refine j_iload_n (i := 3) d_L_law_353 rfl lg3 ?_
        refine j_iconstN (k := 2) d_L_law_354 (by decide) ?_
        refine j_iaddN d_L_law_355 ?_
        refine j_sld d_L_law_356 (by omega) ?_
        refine cl_L_48 (c_D_carry l V S hO (xs (i + 1)) (xs (i + 2))) d_L_law_357 rfl rfl (g_ftL (by decide)) (Nat.le_of_ble_eq_true rfl) ?_
        rintro r V1 S1 hp
        obtain ⟨a9, rfl, hM, hnx⟩ := R_carry hR ht (xs (i + 1)) (xs (i + 2)) hp
        refine j_aload_n (i := 2) d_L_law_360 rfl lg2 ?_
        refine j_aload_n (i := 0) d_L_law_361 rfl lg0 ?_
        refine j_iload_n (i := 3) d_L_law_362 rfl lg3 ?_
        refine j_iconstN (k := 1) d_L_law_363 (by decide) ?_
        refine j_iaddN d_L_law_364 ?_
        refine j_sld d_L_law_365 (by omega) ?_
        refine j_aload_n (i := 0) d_L_law_366 rfl lg0 ?_
        refine j_iload_n (i := 3) d_L_law_367 rfl lg3 ?_
        refine j_iconstN (k := 2) d_L_law_368 (by decide) ?_
        refine j_iaddN d_L_law_369 ?_
        refine j_sld d_L_law_370 (by omega) ?_
        refine cl_L_51 (c_M_carry l V1 S1 hM (xs (i + 1)) (xs (i + 2))) d_L_law_371 rfl rfl (g_ftL (by decide)) (Nat.le_of_ble_eq_true rfl) ?_
        rintro r2 V3 S3 hp2
        obtain ⟨rfl, hR3⟩ := hnx _ _ _ hp2
        refine j_icmp_eq (tgt := 1128) d_L_law_374 (by decide) (fun h_374 => ?_) (fun h_374 => ?_)
        ·
          refine j_iincN (k := 6) d_L_law_1128 lg3 (by decide) ls3r ?_
          refine j_goto (tgt := 18) d_L_law_1131 (by decide) ?_
          exact ih (t + 1) (i + 6) V3 S3 hR3 (by omega) (by omega) (by omega)
        ·
          exact absurd rfl h_374
      by_cases h_33_9 : k = 9
      ·
        refine j_tableIn (tgt := 379) d_L_law_33 (by rw [hs_33, h_33_9]; decide) (by rw [hs_33, h_33_9]; decide) (by rw [hs_33, h_33_9]; rfl) (by decide) ?_
        refine j_aload_n (i := 1) d_L_law_379 rfl lg1 ?_
        refine j_aload_n (i := 0) d_L_law_380 rfl lg0 ?_
        refine j_iload_n (i := 3) d_L_law_381 rfl lg3 ?_
        refine j_iconstN (k := 1) d_L_law_382 (by decide) ?_
        refine j_iaddN d_L_law_383 ?_
        refine j_sld d_L_law_384 (by omega) ?_
        refine j_aload_n (i := 0) d_L_law_385 rfl lg0 ?_
        refine j_iload_n (i := 3) d_L_law_386 rfl lg3 ?_
        refine j_iconstN (k := 2) d_L_law_387 (by decide) ?_
        refine j_iaddN d_L_law_388 ?_
        refine j_sld d_L_law_389 (by omega) ?_
        refine cl_L_52 (c_D_lend l V S hO (xs (i + 1)) (xs (i + 2))) d_L_law_390 rfl rfl (g_ftL (by decide)) (Nat.le_of_ble_eq_true rfl) ?_
        rintro r V1 S1 hp
        obtain ⟨a9, rfl, hM, hnx⟩ := R_lend hR ht (xs (i + 1)) (xs (i + 2)) hp
        refine j_aload_n (i := 2) d_L_law_393 rfl lg2 ?_
        refine j_aload_n (i := 0) d_L_law_394 rfl lg0 ?_
        refine j_iload_n (i := 3) d_L_law_395 rfl lg3 ?_
        refine j_iconstN (k := 1) d_L_law_396 (by decide) ?_
        refine j_iaddN d_L_law_397 ?_
        refine j_sld d_L_law_398 (by omega) ?_
        refine j_aload_n (i := 0) d_L_law_399 rfl lg0 ?_
        refine j_iload_n (i := 3) d_L_law_400 rfl lg3 ?_
        refine j_iconstN (k := 2) d_L_law_401 (by decide) ?_
        refine j_iaddN d_L_law_402 ?_
        refine j_sld d_L_law_403 (by omega) ?_
        refine cl_L_55 (c_M_lend l V1 S1 hM (xs (i + 1)) (xs (i + 2))) d_L_law_404 rfl rfl (g_ftL (by decide)) (Nat.le_of_ble_eq_true rfl) ?_
        rintro r2 V3 S3 hp2
        obtain ⟨rfl, hR3⟩ := hnx _ _ _ hp2
        refine j_icmp_eq (tgt := 1128) d_L_law_407 (by decide) (fun h_407 => ?_) (fun h_407 => ?_)
        ·
          refine j_iincN (k := 6) d_L_law_1128 lg3 (by decide) ls3r ?_
          refine j_goto (tgt := 18) d_L_law_1131 (by decide) ?_
          exact ih (t + 1) (i + 6) V3 S3 hR3 (by omega) (by omega) (by omega)
        ·
          exact absurd rfl h_407
      by_cases h_33_10 : k = 10
      ·
        refine j_tableIn (tgt := 412) d_L_law_33 (by rw [hs_33, h_33_10]; decide) (by rw [hs_33, h_33_10]; decide) (by rw [hs_33, h_33_10]; rfl) (by decide) ?_
        refine j_aload_n (i := 1) d_L_law_412 rfl lg1 ?_
        refine j_aload_n (i := 0) d_L_law_413 rfl lg0 ?_
        refine j_iload_n (i := 3) d_L_law_414 rfl lg3 ?_
        refine j_iconstN (k := 1) d_L_law_415 (by decide) ?_
        refine j_iaddN d_L_law_416 ?_
        refine j_sld d_L_law_417 (by omega) ?_
        refine cl_L_56 (c_D_stick l V S hO (xs (i + 1))) d_L_law_418 rfl rfl (g_ftL (by decide)) (Nat.le_of_ble_eq_true rfl) ?_
        rintro r V1 S1 hp
        obtain ⟨a9, rfl, hM, hnx⟩ := R_stick hR ht (xs (i + 1)) hp
        refine j_aload_n (i := 2) d_L_law_421 rfl lg2 ?_
        refine j_aload_n (i := 0) d_L_law_422 rfl lg0 ?_
        refine j_iload_n (i := 3) d_L_law_423 rfl lg3 ?_
        refine j_iconstN (k := 1) d_L_law_424 (by decide) ?_
        refine j_iaddN d_L_law_425 ?_
        refine j_sld d_L_law_426 (by omega) ?_
        refine cl_L_59 (c_M_stick l V1 S1 hM (xs (i + 1))) d_L_law_427 rfl rfl (g_ftL (by decide)) (Nat.le_of_ble_eq_true rfl) ?_
        rintro r2 V3 S3 hp2
        obtain ⟨rfl, hR3⟩ := hnx _ _ _ hp2
        refine j_icmp_eq (tgt := 1128) d_L_law_430 (by decide) (fun h_430 => ?_) (fun h_430 => ?_)
        ·
          refine j_iincN (k := 6) d_L_law_1128 lg3 (by decide) ls3r ?_
          refine j_goto (tgt := 18) d_L_law_1131 (by decide) ?_
          exact ih (t + 1) (i + 6) V3 S3 hR3 (by omega) (by omega) (by omega)
        ·
          exact absurd rfl h_430
      by_cases h_33_11 : k = 11
      ·
        refine j_tableIn (tgt := 435) d_L_law_33 (by rw [hs_33, h_33_11]; decide) (by rw [hs_33, h_33_11]; decide) (by rw [hs_33, h_33_11]; rfl) (by decide) ?_
        refine j_aload_n (i := 1) d_L_law_435 rfl lg1 ?_
        refine j_aload_n (i := 0) d_L_law_436 rfl lg0 ?_
        refine j_iload_n (i := 3) d_L_law_437 rfl lg3 ?_
        refine j_iconstN (k := 1) d_L_law_438 (by decide) ?_
        refine j_iaddN d_L_law_439 ?_
        refine j_sld d_L_law_440 (by omega) ?_
        refine j_aload_n (i := 0) d_L_law_441 rfl lg0 ?_
        refine j_iload_n (i := 3) d_L_law_442 rfl lg3 ?_
        refine j_iconstN (k := 2) d_L_law_443 (by decide) ?_
        refine j_iaddN d_L_law_444 ?_
        refine j_sld d_L_law_445 (by omega) ?_
        refine cl_L_60 (c_D_pull l V S hO (xs (i + 1)) (xs (i + 2))) d_L_law_446 rfl rfl (g_ftL (by decide)) (Nat.le_of_ble_eq_true rfl) ?_
        rintro r V1 S1 hp
        obtain ⟨a9, rfl, hM, hnx⟩ := R_pull hR ht (xs (i + 1)) (xs (i + 2)) hp
        refine j_aload_n (i := 2) d_L_law_449 rfl lg2 ?_
        refine j_aload_n (i := 0) d_L_law_450 rfl lg0 ?_
        refine j_iload_n (i := 3) d_L_law_451 rfl lg3 ?_
        refine j_iconstN (k := 1) d_L_law_452 (by decide) ?_
        refine j_iaddN d_L_law_453 ?_
        refine j_sld d_L_law_454 (by omega) ?_
        refine j_aload_n (i := 0) d_L_law_455 rfl lg0 ?_
        refine j_iload_n (i := 3) d_L_law_456 rfl lg3 ?_
        refine j_iconstN (k := 2) d_L_law_457 (by decide) ?_
        refine j_iaddN d_L_law_458 ?_
        refine j_sld d_L_law_459 (by omega) ?_
        refine cl_L_63 (c_M_pull l V1 S1 hM (xs (i + 1)) (xs (i + 2))) d_L_law_460 rfl rfl (g_ftL (by decide)) (Nat.le_of_ble_eq_true rfl) ?_
        rintro r2 V3 S3 hp2
        obtain ⟨rfl, hR3⟩ := hnx _ _ _ hp2
        refine j_icmp_eq (tgt := 1128) d_L_law_463 (by decide) (fun h_463 => ?_) (fun h_463 => ?_)
        ·
          refine j_iincN (k := 6) d_L_law_1128 lg3 (by decide) ls3r ?_
          refine j_goto (tgt := 18) d_L_law_1131 (by decide) ?_
          exact ih (t + 1) (i + 6) V3 S3 hR3 (by omega) (by omega) (by omega)
        ·
          exact absurd rfl h_463
      by_cases h_33_12 : k = 12
      ·
        refine j_tableIn (tgt := 468) d_L_law_33 (by rw [hs_33, h_33_12]; decide) (by rw [hs_33, h_33_12]; decide) (by rw [hs_33, h_33_12]; rfl) (by decide) ?_
        refine j_aload_n (i := 1) d_L_law_468 rfl lg1 ?_
        refine j_aload_n (i := 0) d_L_law_469 rfl lg0 ?_
        refine j_iload_n (i := 3) d_L_law_470 rfl lg3 ?_
        refine j_iconstN (k := 1) d_L_law_471 (by decide) ?_
        refine j_iaddN d_L_law_472 ?_
        refine j_sld d_L_law_473 (by omega) ?_
        refine cl_L_64 (c_D_dam l V S hO (xs (i + 1))) d_L_law_474 rfl rfl (g_ftL (by decide)) (Nat.le_of_ble_eq_true rfl) ?_
        rintro r V1 S1 hp
        obtain ⟨a9, rfl, hM, hnx⟩ := R_dam hR ht (xs (i + 1)) hp
        refine j_aload_n (i := 2) d_L_law_477 rfl lg2 ?_
        refine j_aload_n (i := 0) d_L_law_478 rfl lg0 ?_
        refine j_iload_n (i := 3) d_L_law_479 rfl lg3 ?_
        refine j_iconstN (k := 1) d_L_law_480 (by decide) ?_
        refine j_iaddN d_L_law_481 ?_
        refine j_sld d_L_law_482 (by omega) ?_
        refine cl_L_67 (c_M_dam l V1 S1 hM (xs (i + 1))) d_L_law_483 rfl rfl (g_ftL (by decide)) (Nat.le_of_ble_eq_true rfl) ?_
        rintro r2 V3 S3 hp2
        obtain ⟨rfl, hR3⟩ := hnx _ _ _ hp2
        refine j_icmp_eq (tgt := 1128) d_L_law_486 (by decide) (fun h_486 => ?_) (fun h_486 => ?_)
        ·
          refine j_iincN (k := 6) d_L_law_1128 lg3 (by decide) ls3r ?_
          refine j_goto (tgt := 18) d_L_law_1131 (by decide) ?_
          exact ih (t + 1) (i + 6) V3 S3 hR3 (by omega) (by omega) (by omega)
        ·
          exact absurd rfl h_486
      by_cases h_33_13 : k = 13
      ·
        refine j_tableIn (tgt := 491) d_L_law_33 (by rw [hs_33, h_33_13]; decide) (by rw [hs_33, h_33_13]; decide) (by rw [hs_33, h_33_13]; rfl) (by decide) ?_
        refine j_aload_n (i := 1) d_L_law_491 rfl lg1 ?_
        refine cl_L_68 (c_D_undo l V S hO ) d_L_law_492 rfl rfl (g_ftL (by decide)) (Nat.le_of_ble_eq_true rfl) ?_
        rintro r V1 S1 hp
        obtain ⟨a9, rfl, hM, hnx⟩ := R_undo hR ht  hp
        refine j_aload_n (i := 2) d_L_law_495 rfl lg2 ?_
        refine cl_L_71 (c_M_undo l V1 S1 hM ) d_L_law_496 rfl rfl (g_ftL (by decide)) (Nat.le_of_ble_eq_true rfl) ?_
        rintro r2 V3 S3 hp2
        obtain ⟨rfl, hR3⟩ := hnx _ _ _ hp2
        refine j_icmp_eq (tgt := 1128) d_L_law_499 (by decide) (fun h_499 => ?_) (fun h_499 => ?_)
        ·
          refine j_iincN (k := 6) d_L_law_1128 lg3 (by decide) ls3r ?_
          refine j_goto (tgt := 18) d_L_law_1131 (by decide) ?_
          exact ih (t + 1) (i + 6) V3 S3 hR3 (by omega) (by omega) (by omega)
        ·
          exact absurd rfl h_499
      by_cases h_33_14 : k = 14
      ·
        refine j_tableIn (tgt := 504) d_L_law_33 (by rw [hs_33, h_33_14]; decide) (by rw [hs_33, h_33_14]; decide) (by rw [hs_33, h_33_14]; rfl) (by decide) ?_
        refine j_aload_n (i := 1) d_L_law_504 rfl lg1 ?_
        refine j_aload_n (i := 0) d_L_law_505 rfl lg0 ?_
        refine j_iload_n (i := 3) d_L_law_506 rfl lg3 ?_
        refine j_iconstN (k := 1) d_L_law_507 (by decide) ?_
        refine j_iaddN d_L_law_508 ?_
        refine j_sld d_L_law_509 (by omega) ?_
        refine cl_L_72 (c_D_breaks l V S hO (xs (i + 1))) d_L_law_510 rfl rfl (g_ftL (by decide)) (Nat.le_of_ble_eq_true rfl) ?_
        rintro r V1 S1 hp
        obtain ⟨a9, rfl, hM, hnx⟩ := R_breaks hR ht (xs (i + 1)) hp
        refine j_aload_n (i := 2) d_L_law_513 rfl lg2 ?_
        refine j_aload_n (i := 0) d_L_law_514 rfl lg0 ?_
        refine j_iload_n (i := 3) d_L_law_515 rfl lg3 ?_
        refine j_iconstN (k := 1) d_L_law_516 (by decide) ?_
        refine j_iaddN d_L_law_517 ?_
        refine j_sld d_L_law_518 (by omega) ?_
        refine cl_L_75 (c_M_breaks l V1 S1 hM (xs (i + 1))) d_L_law_519 rfl rfl (g_ftL (by decide)) (Nat.le_of_ble_eq_true rfl) ?_
        rintro r2 V3 S3 hp2
        obtain ⟨rfl, hR3⟩ := hnx _ _ _ hp2
        refine j_icmp_eq (tgt := 1128) d_L_law_522 (by decide) (fun h_522 => ?_) (fun h_522 => ?_)
        ·
          refine j_iincN (k := 6) d_L_law_1128 lg3 (by decide) ls3r ?_
          refine j_goto (tgt := 18) d_L_law_1131 (by decide) ?_
          exact ih (t + 1) (i + 6) V3 S3 hR3 (by omega) (by omega) (by omega)
        ·
          exact absurd rfl h_522
      by_cases h_33_15 : k = 15
      ·
        refine j_tableIn (tgt := 527) d_L_law_33 (by rw [hs_33, h_33_15]; decide) (by rw [hs_33, h_33_15]; decide) (by rw [hs_33, h_33_15]; rfl) (by decide) ?_
        refine j_aload_n (i := 1) d_L_law_527 rfl lg1 ?_
        refine j_aload_n (i := 0) d_L_law_528 rfl lg0 ?_
        refine j_iload_n (i := 3) d_L_law_529 rfl lg3 ?_
        refine j_iconstN (k := 1) d_L_law_530 (by decide) ?_
        refine j_iaddN d_L_law_531 ?_
        refine j_sld d_L_law_532 (by omega) ?_
        refine cl_L_76 (c_D_drowns l V S hO (xs (i + 1))) d_L_law_533 rfl rfl (g_ftL (by decide)) (Nat.le_of_ble_eq_true rfl) ?_
        rintro r V1 S1 hp
        obtain ⟨a9, rfl, hM, hnx⟩ := R_drowns hR ht (xs (i + 1)) hp
        refine j_aload_n (i := 2) d_L_law_536 rfl lg2 ?_
        refine j_aload_n (i := 0) d_L_law_537 rfl lg0 ?_
        refine j_iload_n (i := 3) d_L_law_538 rfl lg3 ?_
        refine j_iconstN (k := 1) d_L_law_539 (by decide) ?_
        refine j_iaddN d_L_law_540 ?_
        refine j_sld d_L_law_541 (by omega) ?_
        refine cl_L_79 (c_M_drowns l V1 S1 hM (xs (i + 1))) d_L_law_542 rfl rfl (g_ftL (by decide)) (Nat.le_of_ble_eq_true rfl) ?_
        rintro r2 V3 S3 hp2
        obtain ⟨rfl, hR3⟩ := hnx _ _ _ hp2
        refine j_icmp_eq (tgt := 1128) d_L_law_545 (by decide) (fun h_545 => ?_) (fun h_545 => ?_)
        ·
          refine j_iincN (k := 6) d_L_law_1128 lg3 (by decide) ls3r ?_
          refine j_goto (tgt := 18) d_L_law_1131 (by decide) ?_
          exact ih (t + 1) (i + 6) V3 S3 hR3 (by omega) (by omega) (by omega)
        ·
          exact absurd rfl h_545
      by_cases h_33_16 : k = 16
      ·
        refine j_tableIn (tgt := 550) d_L_law_33 (by rw [hs_33, h_33_16]; decide) (by rw [hs_33, h_33_16]; decide) (by rw [hs_33, h_33_16]; rfl) (by decide) ?_
        refine j_aload_n (i := 1) d_L_law_550 rfl lg1 ?_
        refine j_aload_n (i := 0) d_L_law_551 rfl lg0 ?_
        refine j_iload_n (i := 3) d_L_law_552 rfl lg3 ?_
        refine j_iconstN (k := 1) d_L_law_553 (by decide) ?_
        refine j_iaddN d_L_law_554 ?_
        refine j_sld d_L_law_555 (by omega) ?_
        refine cl_L_80 (c_D_loss l V S hO (xs (i + 1))) d_L_law_556 rfl rfl (g_ftL (by decide)) (Nat.le_of_ble_eq_true rfl) ?_
        rintro r V1 S1 hp
        obtain ⟨a9, rfl, hM, hnx⟩ := R_loss hR ht (xs (i + 1)) hp
        refine j_aload_n (i := 2) d_L_law_559 rfl lg2 ?_
        refine j_aload_n (i := 0) d_L_law_560 rfl lg0 ?_
        refine j_iload_n (i := 3) d_L_law_561 rfl lg3 ?_
        refine j_iconstN (k := 1) d_L_law_562 (by decide) ?_
        refine j_iaddN d_L_law_563 ?_
        refine j_sld d_L_law_564 (by omega) ?_
        refine cl_L_83 (c_M_loss l V1 S1 hM (xs (i + 1))) d_L_law_565 rfl rfl (g_ftL (by decide)) (Nat.le_of_ble_eq_true rfl) ?_
        rintro r2 V3 S3 hp2
        obtain ⟨rfl, hR3⟩ := hnx _ _ _ hp2
        refine j_icmp_eq (tgt := 1128) d_L_law_568 (by decide) (fun h_568 => ?_) (fun h_568 => ?_)
        ·
          refine j_iincN (k := 6) d_L_law_1128 lg3 (by decide) ls3r ?_
          refine j_goto (tgt := 18) d_L_law_1131 (by decide) ?_
          exact ih (t + 1) (i + 6) V3 S3 hR3 (by omega) (by omega) (by omega)
        ·
          exact absurd rfl h_568
      by_cases h_33_17 : k = 17
      ·
        refine j_tableIn (tgt := 573) d_L_law_33 (by rw [hs_33, h_33_17]; decide) (by rw [hs_33, h_33_17]; decide) (by rw [hs_33, h_33_17]; rfl) (by decide) ?_
        refine j_aload_n (i := 1) d_L_law_573 rfl lg1 ?_
        refine j_aload_n (i := 0) d_L_law_574 rfl lg0 ?_
        refine j_iload_n (i := 3) d_L_law_575 rfl lg3 ?_
        refine j_iconstN (k := 1) d_L_law_576 (by decide) ?_
        refine j_iaddN d_L_law_577 ?_
        refine j_sld d_L_law_578 (by omega) ?_
        refine cl_L_84 (c_D_needs l V S hO (xs (i + 1))) d_L_law_579 rfl rfl (g_ftL (by decide)) (Nat.le_of_ble_eq_true rfl) ?_
        rintro r V1 S1 hp
        obtain ⟨a9, rfl, hM, hnx⟩ := R_needs hR ht (xs (i + 1)) hp
        refine j_aload_n (i := 2) d_L_law_582 rfl lg2 ?_
        refine j_aload_n (i := 0) d_L_law_583 rfl lg0 ?_
        refine j_iload_n (i := 3) d_L_law_584 rfl lg3 ?_
        refine j_iconstN (k := 1) d_L_law_585 (by decide) ?_
        refine j_iaddN d_L_law_586 ?_
        refine j_sld d_L_law_587 (by omega) ?_
        refine cl_L_87 (c_M_needs l V1 S1 hM (xs (i + 1))) d_L_law_588 rfl rfl (g_ftL (by decide)) (Nat.le_of_ble_eq_true rfl) ?_
        rintro r2 V3 S3 hp2
        obtain ⟨rfl, hR3⟩ := hnx _ _ _ hp2
        refine j_icmp_eq (tgt := 1128) d_L_law_591 (by decide) (fun h_591 => ?_) (fun h_591 => ?_)
        ·
          refine j_iincN (k := 6) d_L_law_1128 lg3 (by decide) ls3r ?_
          refine j_goto (tgt := 18) d_L_law_1131 (by decide) ?_
          exact ih (t + 1) (i + 6) V3 S3 hR3 (by omega) (by omega) (by omega)
        ·
          exact absurd rfl h_591
      by_cases h_33_18 : k = 18
      ·
        refine j_tableIn (tgt := 596) d_L_law_33 (by rw [hs_33, h_33_18]; decide) (by rw [hs_33, h_33_18]; decide) (by rw [hs_33, h_33_18]; rfl) (by decide) ?_
        refine j_aload_n (i := 1) d_L_law_596 rfl lg1 ?_
        refine j_aload_n (i := 0) d_L_law_597 rfl lg0 ?_
        refine j_iload_n (i := 3) d_L_law_598 rfl lg3 ?_
        refine j_iconstN (k := 1) d_L_law_599 (by decide) ?_
        refine j_iaddN d_L_law_600 ?_
        refine j_sld d_L_law_601 (by omega) ?_
        refine j_aload_n (i := 0) d_L_law_602 rfl lg0 ?_
        refine j_iload_n (i := 3) d_L_law_603 rfl lg3 ?_
        refine j_iconstN (k := 2) d_L_law_604 (by decide) ?_
        refine j_iaddN d_L_law_605 ?_
        refine j_sld d_L_law_606 (by omega) ?_
        refine j_aload_n (i := 0) d_L_law_607 rfl lg0 ?_
        refine j_iload_n (i := 3) d_L_law_608 rfl lg3 ?_
        refine j_iconstN (k := 3) d_L_law_609 (by decide) ?_
        refine j_iaddN d_L_law_610 ?_
        refine j_sld d_L_law_611 (by omega) ?_
        refine cl_L_88 (c_D_placing l V S hO (xs (i + 1)) (xs (i + 2)) (xs (i + 3))) d_L_law_612 rfl rfl (g_ftL (by decide)) (Nat.le_of_ble_eq_true rfl) ?_
        rintro r V1 S1 hp
        obtain ⟨a9, rfl, hM, hnx⟩ := R_placing hR ht (xs (i + 1)) (xs (i + 2)) (xs (i + 3)) hp
        refine j_aload_n (i := 2) d_L_law_615 rfl lg2 ?_
        refine j_aload_n (i := 0) d_L_law_616 rfl lg0 ?_
        refine j_iload_n (i := 3) d_L_law_617 rfl lg3 ?_
        refine j_iconstN (k := 1) d_L_law_618 (by decide) ?_
        refine j_iaddN d_L_law_619 ?_
        refine j_sld d_L_law_620 (by omega) ?_
        refine j_aload_n (i := 0) d_L_law_621 rfl lg0 ?_
        refine j_iload_n (i := 3) d_L_law_622 rfl lg3 ?_
        refine j_iconstN (k := 2) d_L_law_623 (by decide) ?_
        refine j_iaddN d_L_law_624 ?_
        refine j_sld d_L_law_625 (by omega) ?_
        refine j_aload_n (i := 0) d_L_law_626 rfl lg0 ?_
        refine j_iload_n (i := 3) d_L_law_627 rfl lg3 ?_
        refine j_iconstN (k := 3) d_L_law_628 (by decide) ?_
        refine j_iaddN d_L_law_629 ?_
        refine j_sld d_L_law_630 (by omega) ?_
        refine cl_L_92 (c_M_placing l V1 S1 hM (xs (i + 1)) (xs (i + 2)) (xs (i + 3))) d_L_law_631 rfl rfl (g_ftL (by decide)) (Nat.le_of_ble_eq_true rfl) ?_
        rintro r2 V3 S3 hp2
        obtain ⟨rfl, hR3⟩ := hnx _ _ _ hp2
        refine j_icmp_eq (tgt := 1128) d_L_law_634 (by decide) (fun h_634 => ?_) (fun h_634 => ?_)
        ·
          refine j_iincN (k := 6) d_L_law_1128 lg3 (by decide) ls3r ?_
          refine j_goto (tgt := 18) d_L_law_1131 (by decide) ?_
          exact ih (t + 1) (i + 6) V3 S3 hR3 (by omega) (by omega) (by omega)
        ·
          exact absurd rfl h_634
      by_cases h_33_19 : k = 19
      ·
        refine j_tableIn (tgt := 639) d_L_law_33 (by rw [hs_33, h_33_19]; decide) (by rw [hs_33, h_33_19]; decide) (by rw [hs_33, h_33_19]; rfl) (by decide) ?_
        refine j_aload_n (i := 1) d_L_law_639 rfl lg1 ?_
        refine cl_L_93 (c_D_all l V S hO ) d_L_law_640 rfl rfl (g_ftL (by decide)) (Nat.le_of_ble_eq_true rfl) ?_
        rintro r V1 S1 hp
        obtain ⟨a9, rfl, hM, hnx⟩ := R_all hR ht  hp
        refine j_aload_n (i := 2) d_L_law_643 rfl lg2 ?_
        refine cl_L_96 (c_M_all l V1 S1 hM ) d_L_law_644 rfl rfl (g_ftL (by decide)) (Nat.le_of_ble_eq_true rfl) ?_
        rintro r2 V3 S3 hp2
        obtain ⟨rfl, hR3⟩ := hnx _ _ _ hp2
        refine j_icmp_eq (tgt := 1128) d_L_law_647 (by decide) (fun h_647 => ?_) (fun h_647 => ?_)
        ·
          refine j_iincN (k := 6) d_L_law_1128 lg3 (by decide) ls3r ?_
          refine j_goto (tgt := 18) d_L_law_1131 (by decide) ?_
          exact ih (t + 1) (i + 6) V3 S3 hR3 (by omega) (by omega) (by omega)
        ·
          exact absurd rfl h_647
      by_cases h_33_20 : k = 20
      ·
        refine j_tableIn (tgt := 652) d_L_law_33 (by rw [hs_33, h_33_20]; decide) (by rw [hs_33, h_33_20]; decide) (by rw [hs_33, h_33_20]; rfl) (by decide) ?_
        refine j_aload_n (i := 1) d_L_law_652 rfl lg1 ?_
        refine j_aload_n (i := 0) d_L_law_653 rfl lg0 ?_
        refine j_iload_n (i := 3) d_L_law_654 rfl lg3 ?_
        refine j_iconstN (k := 1) d_L_law_655 (by decide) ?_
        refine j_iaddN d_L_law_656 ?_
        refine j_sld d_L_law_657 (by omega) ?_
        refine j_aload_n (i := 0) d_L_law_658 rfl lg0 ?_
        refine j_iload_n (i := 3) d_L_law_659 rfl lg3 ?_
        refine j_iconstN (k := 2) d_L_law_660 (by decide) ?_
        refine j_iaddN d_L_law_661 ?_
        refine j_sld d_L_law_662 (by omega) ?_
        refine j_aload_n (i := 0) d_L_law_663 rfl lg0 ?_
        refine j_iload_n (i := 3) d_L_law_664 rfl lg3 ?_
        refine j_iconstN (k := 3) d_L_law_665 (by decide) ?_
        refine j_iaddN d_L_law_666 ?_
        refine j_sld d_L_law_667 (by omega) ?_
        refine j_i2l d_L_law_668 ?_
        refine j_bipushN (k := 32) d_L_law_669 (by decide) ?_
        refine j_lshl d_L_law_671 ?_
        refine j_aload_n (i := 0) d_L_law_672 rfl lg0 ?_
        refine j_iload_n (i := 3) d_L_law_673 rfl lg3 ?_
        refine j_iconstN (k := 4) d_L_law_674 (by decide) ?_
        refine j_iaddN d_L_law_675 ?_
        refine j_sld d_L_law_676 (by omega) ?_
        refine j_i2l d_L_law_677 ?_
        refine j_ldc2 (v := 4294967295) d_L_law_678 (g_use (List.mem_of_getElem? (i := 797) (by decide +kernel)) rfl) ?_
        refine j_land d_L_law_681 ?_
        refine j_lor d_L_law_682 ?_
        refine j_aload_n (i := 0) d_L_law_683 rfl lg0 ?_
        refine j_iload_n (i := 3) d_L_law_684 rfl lg3 ?_
        refine j_iconstN (k := 5) d_L_law_685 (by decide) ?_
        refine j_iaddN d_L_law_686 ?_
        refine j_sld d_L_law_687 (by omega) ?_
        refine cl_L_99 (c_D_told l V S hO (xs (i + 1)) (xs (i + 2)) ((((xs (i + 3)).toInt64) <<< ((nI (32)).toInt64 &&& 63)) ||| (((xs (i + 4)).toInt64) &&& 4294967295)) (xs (i + 5))) d_L_law_688 rfl rfl (g_ftL (by decide)) (Nat.le_of_ble_eq_true rfl) ?_
        rintro r V1 S1 hp
        obtain ⟨a9, rfl, hM, hnx⟩ := R_told hR ht (xs (i + 1)) (xs (i + 2)) ((((xs (i + 3)).toInt64) <<< ((nI (32)).toInt64 &&& 63)) ||| (((xs (i + 4)).toInt64) &&& 4294967295)) (xs (i + 5)) hp
        refine j_aload_n (i := 2) d_L_law_691 rfl lg2 ?_
        refine j_aload_n (i := 0) d_L_law_692 rfl lg0 ?_
        refine j_iload_n (i := 3) d_L_law_693 rfl lg3 ?_
        refine j_iconstN (k := 1) d_L_law_694 (by decide) ?_
        refine j_iaddN d_L_law_695 ?_
        refine j_sld d_L_law_696 (by omega) ?_
        refine j_aload_n (i := 0) d_L_law_697 rfl lg0 ?_
        refine j_iload_n (i := 3) d_L_law_698 rfl lg3 ?_
        refine j_iconstN (k := 2) d_L_law_699 (by decide) ?_
        refine j_iaddN d_L_law_700 ?_
        refine j_sld d_L_law_701 (by omega) ?_
        refine j_aload_n (i := 0) d_L_law_702 rfl lg0 ?_
        refine j_iload_n (i := 3) d_L_law_703 rfl lg3 ?_
        refine j_iconstN (k := 3) d_L_law_704 (by decide) ?_
        refine j_iaddN d_L_law_705 ?_
        refine j_sld d_L_law_706 (by omega) ?_
        refine j_i2l d_L_law_707 ?_
        refine j_bipushN (k := 32) d_L_law_708 (by decide) ?_
        refine j_lshl d_L_law_710 ?_
        refine j_aload_n (i := 0) d_L_law_711 rfl lg0 ?_
        refine j_iload_n (i := 3) d_L_law_712 rfl lg3 ?_
        refine j_iconstN (k := 4) d_L_law_713 (by decide) ?_
        refine j_iaddN d_L_law_714 ?_
        refine j_sld d_L_law_715 (by omega) ?_
        refine j_i2l d_L_law_716 ?_
        refine j_ldc2 (v := 4294967295) d_L_law_717 (g_use (List.mem_of_getElem? (i := 797) (by decide +kernel)) rfl) ?_
        refine j_land d_L_law_720 ?_
        refine j_lor d_L_law_721 ?_
        refine j_aload_n (i := 0) d_L_law_722 rfl lg0 ?_
        refine j_iload_n (i := 3) d_L_law_723 rfl lg3 ?_
        refine j_iconstN (k := 5) d_L_law_724 (by decide) ?_
        refine j_iaddN d_L_law_725 ?_
        refine j_sld d_L_law_726 (by omega) ?_
        refine cl_L_103 (c_M_told l V1 S1 hM (xs (i + 1)) (xs (i + 2)) ((((xs (i + 3)).toInt64) <<< ((nI (32)).toInt64 &&& 63)) ||| (((xs (i + 4)).toInt64) &&& 4294967295)) (xs (i + 5))) d_L_law_727 rfl rfl (g_ftL (by decide)) (Nat.le_of_ble_eq_true rfl) ?_
        rintro r2 V3 S3 hp2
        obtain ⟨rfl, hR3⟩ := hnx _ _ _ hp2
        refine j_icmp_eq (tgt := 1128) d_L_law_730 (by decide) (fun h_730 => ?_) (fun h_730 => ?_)
        ·
          refine j_iincN (k := 6) d_L_law_1128 lg3 (by decide) ls3r ?_
          refine j_goto (tgt := 18) d_L_law_1131 (by decide) ?_
          exact ih (t + 1) (i + 6) V3 S3 hR3 (by omega) (by omega) (by omega)
        ·
          exact absurd rfl h_730
      by_cases h_33_21 : k = 21
      ·
        refine j_tableIn (tgt := 735) d_L_law_33 (by rw [hs_33, h_33_21]; decide) (by rw [hs_33, h_33_21]; decide) (by rw [hs_33, h_33_21]; rfl) (by decide) ?_
        refine j_aload_n (i := 1) d_L_law_735 rfl lg1 ?_
        refine j_aload_n (i := 0) d_L_law_736 rfl lg0 ?_
        refine j_iload_n (i := 3) d_L_law_737 rfl lg3 ?_
        refine j_iconstN (k := 1) d_L_law_738 (by decide) ?_
        refine j_iaddN d_L_law_739 ?_
        refine j_sld d_L_law_740 (by omega) ?_
        refine j_aload_n (i := 0) d_L_law_741 rfl lg0 ?_
        refine j_iload_n (i := 3) d_L_law_742 rfl lg3 ?_
        refine j_iconstN (k := 2) d_L_law_743 (by decide) ?_
        refine j_iaddN d_L_law_744 ?_
        refine j_sld d_L_law_745 (by omega) ?_
        refine cl_L_104 (c_D_wet l V S hO (xs (i + 1)) (xs (i + 2))) d_L_law_746 rfl rfl (g_ftL (by decide)) (Nat.le_of_ble_eq_true rfl) ?_
        rintro r V1 S1 hp
        obtain ⟨a9, rfl, hM, hnx⟩ := R_wet hR ht (xs (i + 1)) (xs (i + 2)) hp
        refine j_aload_n (i := 2) d_L_law_749 rfl lg2 ?_
        refine j_aload_n (i := 0) d_L_law_750 rfl lg0 ?_
        refine j_iload_n (i := 3) d_L_law_751 rfl lg3 ?_
        refine j_iconstN (k := 1) d_L_law_752 (by decide) ?_
        refine j_iaddN d_L_law_753 ?_
        refine j_sld d_L_law_754 (by omega) ?_
        refine j_aload_n (i := 0) d_L_law_755 rfl lg0 ?_
        refine j_iload_n (i := 3) d_L_law_756 rfl lg3 ?_
        refine j_iconstN (k := 2) d_L_law_757 (by decide) ?_
        refine j_iaddN d_L_law_758 ?_
        refine j_sld d_L_law_759 (by omega) ?_
        refine cl_L_107 (c_M_wet l V1 S1 hM (xs (i + 1)) (xs (i + 2))) d_L_law_760 rfl rfl (g_ftL (by decide)) (Nat.le_of_ble_eq_true rfl) ?_
        rintro r2 V3 S3 hp2
        obtain ⟨rfl, hR3⟩ := hnx _ _ _ hp2
        refine j_icmp_eq (tgt := 1128) d_L_law_763 (by decide) (fun h_763 => ?_) (fun h_763 => ?_)
        ·
          refine j_iincN (k := 6) d_L_law_1128 lg3 (by decide) ls3r ?_
          refine j_goto (tgt := 18) d_L_law_1131 (by decide) ?_
          exact ih (t + 1) (i + 6) V3 S3 hR3 (by omega) (by omega) (by omega)
        ·
          exact absurd rfl h_763
      by_cases h_33_22 : k = 22
      ·
        refine j_tableIn (tgt := 768) d_L_law_33 (by rw [hs_33, h_33_22]; decide) (by rw [hs_33, h_33_22]; decide) (by rw [hs_33, h_33_22]; rfl) (by decide) ?_
        refine j_aload_n (i := 1) d_L_law_768 rfl lg1 ?_
        refine j_aload_n (i := 0) d_L_law_769 rfl lg0 ?_
        refine j_iload_n (i := 3) d_L_law_770 rfl lg3 ?_
        refine j_iconstN (k := 1) d_L_law_771 (by decide) ?_
        refine j_iaddN d_L_law_772 ?_
        refine j_sld d_L_law_773 (by omega) ?_
        refine cl_L_108 (c_D_net l V S hO (xs (i + 1))) d_L_law_774 rfl rfl (g_ftL (by decide)) (Nat.le_of_ble_eq_true rfl) ?_
        rintro r V1 S1 hp
        obtain ⟨a9, rfl, hM, hnx⟩ := R_net hR ht (xs (i + 1)) hp
        refine j_aload_n (i := 2) d_L_law_777 rfl lg2 ?_
        refine j_aload_n (i := 0) d_L_law_778 rfl lg0 ?_
        refine j_iload_n (i := 3) d_L_law_779 rfl lg3 ?_
        refine j_iconstN (k := 1) d_L_law_780 (by decide) ?_
        refine j_iaddN d_L_law_781 ?_
        refine j_sld d_L_law_782 (by omega) ?_
        refine cl_L_111 (c_M_net l V1 S1 hM (xs (i + 1))) d_L_law_783 rfl rfl (g_ftL (by decide)) (Nat.le_of_ble_eq_true rfl) ?_
        rintro r2 V3 S3 hp2
        obtain ⟨rfl, hR3⟩ := hnx _ _ _ hp2
        refine j_icmp_eq (tgt := 1128) d_L_law_786 (by decide) (fun h_786 => ?_) (fun h_786 => ?_)
        ·
          refine j_iincN (k := 6) d_L_law_1128 lg3 (by decide) ls3r ?_
          refine j_goto (tgt := 18) d_L_law_1131 (by decide) ?_
          exact ih (t + 1) (i + 6) V3 S3 hR3 (by omega) (by omega) (by omega)
        ·
          exact absurd rfl h_786
      by_cases h_33_23 : k = 23
      ·
        refine j_tableIn (tgt := 791) d_L_law_33 (by rw [hs_33, h_33_23]; decide) (by rw [hs_33, h_33_23]; decide) (by rw [hs_33, h_33_23]; rfl) (by decide) ?_
        refine j_aload_n (i := 1) d_L_law_791 rfl lg1 ?_
        refine cl_L_112 (c_D_payings l V S hO ) d_L_law_792 rfl rfl (g_ftL (by decide)) (Nat.le_of_ble_eq_true rfl) ?_
        rintro r V1 S1 hp
        obtain ⟨a9, rfl, hM, hnx⟩ := R_payings hR ht  hp
        refine j_aload_n (i := 2) d_L_law_795 rfl lg2 ?_
        refine cl_L_115 (c_M_payings l V1 S1 hM ) d_L_law_796 rfl rfl (g_ftL (by decide)) (Nat.le_of_ble_eq_true rfl) ?_
        rintro r2 V3 S3 hp2
        obtain ⟨rfl, hR3⟩ := hnx _ _ _ hp2
        refine j_icmp_eq (tgt := 1128) d_L_law_799 (by decide) (fun h_799 => ?_) (fun h_799 => ?_)
        ·
          refine j_iincN (k := 6) d_L_law_1128 lg3 (by decide) ls3r ?_
          refine j_goto (tgt := 18) d_L_law_1131 (by decide) ?_
          exact ih (t + 1) (i + 6) V3 S3 hR3 (by omega) (by omega) (by omega)
        ·
          exact absurd rfl h_799
      by_cases h_33_24 : k = 24
      ·
        refine j_tableIn (tgt := 804) d_L_law_33 (by rw [hs_33, h_33_24]; decide) (by rw [hs_33, h_33_24]; decide) (by rw [hs_33, h_33_24]; rfl) (by decide) ?_
        refine j_aload_n (i := 1) d_L_law_804 rfl lg1 ?_
        refine j_aload_n (i := 0) d_L_law_805 rfl lg0 ?_
        refine j_iload_n (i := 3) d_L_law_806 rfl lg3 ?_
        refine j_iconstN (k := 1) d_L_law_807 (by decide) ?_
        refine j_iaddN d_L_law_808 ?_
        refine j_sld d_L_law_809 (by omega) ?_
        refine j_aload_n (i := 0) d_L_law_810 rfl lg0 ?_
        refine j_iload_n (i := 3) d_L_law_811 rfl lg3 ?_
        refine j_iconstN (k := 2) d_L_law_812 (by decide) ?_
        refine j_iaddN d_L_law_813 ?_
        refine j_sld d_L_law_814 (by omega) ?_
        refine j_aload_n (i := 0) d_L_law_815 rfl lg0 ?_
        refine j_iload_n (i := 3) d_L_law_816 rfl lg3 ?_
        refine j_iconstN (k := 3) d_L_law_817 (by decide) ?_
        refine j_iaddN d_L_law_818 ?_
        refine j_sld d_L_law_819 (by omega) ?_
        refine j_if_eq (tgt := 827) d_L_law_820 (by decide) (fun h_820 => ?_) (fun h_820 => ?_)
        ·
          refine j_iconstN (k := 0) d_L_law_827 (by decide) ?_
          refine cl_L_116 (c_D_share l V S hO (xs (i + 1)) (xs (i + 2)) (0) (by decide)) d_L_law_828 rfl rfl (g_ftL (by decide)) (Nat.le_of_ble_eq_true rfl) ?_
          rintro r V1 S1 hp
          obtain ⟨a9, rfl, hM, hnx⟩ := R_share hR ht (xs (i + 1)) (xs (i + 2)) (0) hp
          refine j_aload_n (i := 2) d_L_law_831 rfl lg2 ?_
          refine j_aload_n (i := 0) d_L_law_832 rfl lg0 ?_
          refine j_iload_n (i := 3) d_L_law_833 rfl lg3 ?_
          refine j_iconstN (k := 1) d_L_law_834 (by decide) ?_
          refine j_iaddN d_L_law_835 ?_
          refine j_sld d_L_law_836 (by omega) ?_
          refine j_aload_n (i := 0) d_L_law_837 rfl lg0 ?_
          refine j_iload_n (i := 3) d_L_law_838 rfl lg3 ?_
          refine j_iconstN (k := 2) d_L_law_839 (by decide) ?_
          refine j_iaddN d_L_law_840 ?_
          refine j_sld d_L_law_841 (by omega) ?_
          refine j_aload_n (i := 0) d_L_law_842 rfl lg0 ?_
          refine j_iload_n (i := 3) d_L_law_843 rfl lg3 ?_
          refine j_iconstN (k := 3) d_L_law_844 (by decide) ?_
          refine j_iaddN d_L_law_845 ?_
          refine j_sld d_L_law_846 (by omega) ?_
          refine j_if_eq (tgt := 854) d_L_law_847 (by decide) (fun h_847 => ?_) (fun h_847 => ?_)
          ·
            refine j_iconstN (k := 0) d_L_law_854 (by decide) ?_
            refine cl_L_120 (c_M_share l V1 S1 hM (xs (i + 1)) (xs (i + 2)) (0) (by decide)) d_L_law_855 rfl rfl (g_ftL (by decide)) (Nat.le_of_ble_eq_true rfl) ?_
            rintro r2 V3 S3 hp2
            obtain ⟨rfl, hR3⟩ := hnx _ _ _ hp2
            refine j_icmp_eq (tgt := 1128) d_L_law_858 (by decide) (fun h_858 => ?_) (fun h_858 => ?_)
            ·
              refine j_iincN (k := 6) d_L_law_1128 lg3 (by decide) ls3r ?_
              refine j_goto (tgt := 18) d_L_law_1131 (by decide) ?_
              exact ih (t + 1) (i + 6) V3 S3 hR3 (by omega) (by omega) (by omega)
            ·
              exact absurd rfl h_858
          ·
            exact absurd h_820 h_847
        ·
          refine j_iconstN (k := 1) d_L_law_823 (by decide) ?_
          refine j_goto (tgt := 828) d_L_law_824 (by decide) ?_
          refine cl_L_116 (c_D_share l V S hO (xs (i + 1)) (xs (i + 2)) (1) (by decide)) d_L_law_828 rfl rfl (g_ftL (by decide)) (Nat.le_of_ble_eq_true rfl) ?_
          rintro r V1 S1 hp
          obtain ⟨a9, rfl, hM, hnx⟩ := R_share hR ht (xs (i + 1)) (xs (i + 2)) (1) hp
          refine j_aload_n (i := 2) d_L_law_831 rfl lg2 ?_
          refine j_aload_n (i := 0) d_L_law_832 rfl lg0 ?_
          refine j_iload_n (i := 3) d_L_law_833 rfl lg3 ?_
          refine j_iconstN (k := 1) d_L_law_834 (by decide) ?_
          refine j_iaddN d_L_law_835 ?_
          refine j_sld d_L_law_836 (by omega) ?_
          refine j_aload_n (i := 0) d_L_law_837 rfl lg0 ?_
          refine j_iload_n (i := 3) d_L_law_838 rfl lg3 ?_
          refine j_iconstN (k := 2) d_L_law_839 (by decide) ?_
          refine j_iaddN d_L_law_840 ?_
          refine j_sld d_L_law_841 (by omega) ?_
          refine j_aload_n (i := 0) d_L_law_842 rfl lg0 ?_
          refine j_iload_n (i := 3) d_L_law_843 rfl lg3 ?_
          refine j_iconstN (k := 3) d_L_law_844 (by decide) ?_
          refine j_iaddN d_L_law_845 ?_
          refine j_sld d_L_law_846 (by omega) ?_
          refine j_if_eq (tgt := 854) d_L_law_847 (by decide) (fun h_847 => ?_) (fun h_847 => ?_)
          ·
            exact absurd h_847 h_820
          ·
            refine j_iconstN (k := 1) d_L_law_850 (by decide) ?_
            refine j_goto (tgt := 855) d_L_law_851 (by decide) ?_
            refine cl_L_120 (c_M_share l V1 S1 hM (xs (i + 1)) (xs (i + 2)) (1) (by decide)) d_L_law_855 rfl rfl (g_ftL (by decide)) (Nat.le_of_ble_eq_true rfl) ?_
            rintro r2 V3 S3 hp2
            obtain ⟨rfl, hR3⟩ := hnx _ _ _ hp2
            refine j_icmp_eq (tgt := 1128) d_L_law_858 (by decide) (fun h_858 => ?_) (fun h_858 => ?_)
            ·
              refine j_iincN (k := 6) d_L_law_1128 lg3 (by decide) ls3r ?_
              refine j_goto (tgt := 18) d_L_law_1131 (by decide) ?_
              exact ih (t + 1) (i + 6) V3 S3 hR3 (by omega) (by omega) (by omega)
            ·
              exact absurd rfl h_858
      by_cases h_33_25 : k = 25
      ·
        refine j_tableIn (tgt := 863) d_L_law_33 (by rw [hs_33, h_33_25]; decide) (by rw [hs_33, h_33_25]; decide) (by rw [hs_33, h_33_25]; rfl) (by decide) ?_
        refine j_aload_n (i := 1) d_L_law_863 rfl lg1 ?_
        refine j_aload_n (i := 0) d_L_law_864 rfl lg0 ?_
        refine j_iload_n (i := 3) d_L_law_865 rfl lg3 ?_
        refine j_iconstN (k := 1) d_L_law_866 (by decide) ?_
        refine j_iaddN d_L_law_867 ?_
        refine j_sld d_L_law_868 (by omega) ?_
        refine j_aload_n (i := 0) d_L_law_869 rfl lg0 ?_
        refine j_iload_n (i := 3) d_L_law_870 rfl lg3 ?_
        refine j_iconstN (k := 2) d_L_law_871 (by decide) ?_
        refine j_iaddN d_L_law_872 ?_
        refine j_sld d_L_law_873 (by omega) ?_
        refine j_aload_n (i := 0) d_L_law_874 rfl lg0 ?_
        refine j_iload_n (i := 3) d_L_law_875 rfl lg3 ?_
        refine j_iconstN (k := 3) d_L_law_876 (by decide) ?_
        refine j_iaddN d_L_law_877 ?_
        refine j_sld d_L_law_878 (by omega) ?_
        refine j_aload_n (i := 0) d_L_law_879 rfl lg0 ?_
        refine j_iload_n (i := 3) d_L_law_880 rfl lg3 ?_
        refine j_iconstN (k := 4) d_L_law_881 (by decide) ?_
        refine j_iaddN d_L_law_882 ?_
        refine j_sld d_L_law_883 (by omega) ?_
        refine j_aload_n (i := 0) d_L_law_884 rfl lg0 ?_
        refine j_iload_n (i := 3) d_L_law_885 rfl lg3 ?_
        refine j_iconstN (k := 5) d_L_law_886 (by decide) ?_
        refine j_iaddN d_L_law_887 ?_
        refine j_sld d_L_law_888 (by omega) ?_
        refine cl_L_121 (c_D_rests l V S hO (xs (i + 1)) (xs (i + 2)) (xs (i + 3)) (xs (i + 4)) (xs (i + 5))) d_L_law_889 rfl rfl (g_ftL (by decide)) (Nat.le_of_ble_eq_true rfl) ?_
        rintro r V1 S1 hp
        obtain ⟨a9, rfl, hM, hnx⟩ := R_rests hR ht (xs (i + 1)) (xs (i + 2)) (xs (i + 3)) (xs (i + 4)) (xs (i + 5)) hp
        refine j_aload_n (i := 2) d_L_law_892 rfl lg2 ?_
        refine j_aload_n (i := 0) d_L_law_893 rfl lg0 ?_
        refine j_iload_n (i := 3) d_L_law_894 rfl lg3 ?_
        refine j_iconstN (k := 1) d_L_law_895 (by decide) ?_
        refine j_iaddN d_L_law_896 ?_
        refine j_sld d_L_law_897 (by omega) ?_
        refine j_aload_n (i := 0) d_L_law_898 rfl lg0 ?_
        refine j_iload_n (i := 3) d_L_law_899 rfl lg3 ?_
        refine j_iconstN (k := 2) d_L_law_900 (by decide) ?_
        refine j_iaddN d_L_law_901 ?_
        refine j_sld d_L_law_902 (by omega) ?_
        refine j_aload_n (i := 0) d_L_law_903 rfl lg0 ?_
        refine j_iload_n (i := 3) d_L_law_904 rfl lg3 ?_
        refine j_iconstN (k := 3) d_L_law_905 (by decide) ?_
        refine j_iaddN d_L_law_906 ?_
        refine j_sld d_L_law_907 (by omega) ?_
        refine j_aload_n (i := 0) d_L_law_908 rfl lg0 ?_
        refine j_iload_n (i := 3) d_L_law_909 rfl lg3 ?_
        refine j_iconstN (k := 4) d_L_law_910 (by decide) ?_
        refine j_iaddN d_L_law_911 ?_
        refine j_sld d_L_law_912 (by omega) ?_
        refine j_aload_n (i := 0) d_L_law_913 rfl lg0 ?_
        refine j_iload_n (i := 3) d_L_law_914 rfl lg3 ?_
        refine j_iconstN (k := 5) d_L_law_915 (by decide) ?_
        refine j_iaddN d_L_law_916 ?_
        refine j_sld d_L_law_917 (by omega) ?_
        refine cl_L_125 (c_M_rests l V1 S1 hM (xs (i + 1)) (xs (i + 2)) (xs (i + 3)) (xs (i + 4)) (xs (i + 5))) d_L_law_918 rfl rfl (g_ftL (by decide)) (Nat.le_of_ble_eq_true rfl) ?_
        rintro r2 V3 S3 hp2
        obtain ⟨rfl, hR3⟩ := hnx _ _ _ hp2
        refine j_icmp_eq (tgt := 1128) d_L_law_921 (by decide) (fun h_921 => ?_) (fun h_921 => ?_)
        ·
          refine j_iincN (k := 6) d_L_law_1128 lg3 (by decide) ls3r ?_
          refine j_goto (tgt := 18) d_L_law_1131 (by decide) ?_
          exact ih (t + 1) (i + 6) V3 S3 hR3 (by omega) (by omega) (by omega)
        ·
          exact absurd rfl h_921
      by_cases h_33_26 : k = 26
      ·
        refine j_tableIn (tgt := 926) d_L_law_33 (by rw [hs_33, h_33_26]; decide) (by rw [hs_33, h_33_26]; decide) (by rw [hs_33, h_33_26]; rfl) (by decide) ?_
        refine j_aload_n (i := 1) d_L_law_926 rfl lg1 ?_
        refine j_aload_n (i := 0) d_L_law_927 rfl lg0 ?_
        refine j_iload_n (i := 3) d_L_law_928 rfl lg3 ?_
        refine j_iconstN (k := 1) d_L_law_929 (by decide) ?_
        refine j_iaddN d_L_law_930 ?_
        refine j_sld d_L_law_931 (by omega) ?_
        refine j_aload_n (i := 0) d_L_law_932 rfl lg0 ?_
        refine j_iload_n (i := 3) d_L_law_933 rfl lg3 ?_
        refine j_iconstN (k := 2) d_L_law_934 (by decide) ?_
        refine j_iaddN d_L_law_935 ?_
        refine j_sld d_L_law_936 (by omega) ?_
        refine j_aload_n (i := 0) d_L_law_937 rfl lg0 ?_
        refine j_iload_n (i := 3) d_L_law_938 rfl lg3 ?_
        refine j_iconstN (k := 3) d_L_law_939 (by decide) ?_
        refine j_iaddN d_L_law_940 ?_
        refine j_sld d_L_law_941 (by omega) ?_
        refine j_aload_n (i := 0) d_L_law_942 rfl lg0 ?_
        refine j_iload_n (i := 3) d_L_law_943 rfl lg3 ?_
        refine j_iconstN (k := 4) d_L_law_944 (by decide) ?_
        refine j_iaddN d_L_law_945 ?_
        refine j_sld d_L_law_946 (by omega) ?_
        refine j_aload_n (i := 0) d_L_law_947 rfl lg0 ?_
        refine j_iload_n (i := 3) d_L_law_948 rfl lg3 ?_
        refine j_iconstN (k := 5) d_L_law_949 (by decide) ?_
        refine j_iaddN d_L_law_950 ?_
        refine j_sld d_L_law_951 (by omega) ?_
        refine j_if_eq (tgt := 959) d_L_law_952 (by decide) (fun h_952 => ?_) (fun h_952 => ?_)
        ·
          refine j_iconstN (k := 0) d_L_law_959 (by decide) ?_
          refine cl_L_126 (c_D_threes l V S hO (xs (i + 1)) (xs (i + 2)) (xs (i + 3)) (xs (i + 4)) (0) (by decide)) d_L_law_960 rfl rfl (g_ftL (by decide)) (Nat.le_of_ble_eq_true rfl) ?_
          rintro r V1 S1 hp
          obtain ⟨a9, rfl, hM, hnx⟩ := R_threes hR ht (xs (i + 1)) (xs (i + 2)) (xs (i + 3)) (xs (i + 4)) (0) hp
          refine j_aload_n (i := 2) d_L_law_963 rfl lg2 ?_
          refine j_aload_n (i := 0) d_L_law_964 rfl lg0 ?_
          refine j_iload_n (i := 3) d_L_law_965 rfl lg3 ?_
          refine j_iconstN (k := 1) d_L_law_966 (by decide) ?_
          refine j_iaddN d_L_law_967 ?_
          refine j_sld d_L_law_968 (by omega) ?_
          refine j_aload_n (i := 0) d_L_law_969 rfl lg0 ?_
          refine j_iload_n (i := 3) d_L_law_970 rfl lg3 ?_
          refine j_iconstN (k := 2) d_L_law_971 (by decide) ?_
          refine j_iaddN d_L_law_972 ?_
          refine j_sld d_L_law_973 (by omega) ?_
          refine j_aload_n (i := 0) d_L_law_974 rfl lg0 ?_
          refine j_iload_n (i := 3) d_L_law_975 rfl lg3 ?_
          refine j_iconstN (k := 3) d_L_law_976 (by decide) ?_
          refine j_iaddN d_L_law_977 ?_
          refine j_sld d_L_law_978 (by omega) ?_
          refine j_aload_n (i := 0) d_L_law_979 rfl lg0 ?_
          refine j_iload_n (i := 3) d_L_law_980 rfl lg3 ?_
          refine j_iconstN (k := 4) d_L_law_981 (by decide) ?_
          refine j_iaddN d_L_law_982 ?_
          refine j_sld d_L_law_983 (by omega) ?_
          refine j_aload_n (i := 0) d_L_law_984 rfl lg0 ?_
          refine j_iload_n (i := 3) d_L_law_985 rfl lg3 ?_
          refine j_iconstN (k := 5) d_L_law_986 (by decide) ?_
          refine j_iaddN d_L_law_987 ?_
          refine j_sld d_L_law_988 (by omega) ?_
          refine j_if_eq (tgt := 996) d_L_law_989 (by decide) (fun h_989 => ?_) (fun h_989 => ?_)
          ·
            refine j_iconstN (k := 0) d_L_law_996 (by decide) ?_
            refine cl_L_130 (c_M_threes l V1 S1 hM (xs (i + 1)) (xs (i + 2)) (xs (i + 3)) (xs (i + 4)) (0) (by decide)) d_L_law_997 rfl rfl (g_ftL (by decide)) (Nat.le_of_ble_eq_true rfl) ?_
            rintro r2 V3 S3 hp2
            obtain ⟨rfl, hR3⟩ := hnx _ _ _ hp2
            refine j_icmp_eq (tgt := 1128) d_L_law_1000 (by decide) (fun h_1000 => ?_) (fun h_1000 => ?_)
            ·
              refine j_iincN (k := 6) d_L_law_1128 lg3 (by decide) ls3r ?_
              refine j_goto (tgt := 18) d_L_law_1131 (by decide) ?_
              exact ih (t + 1) (i + 6) V3 S3 hR3 (by omega) (by omega) (by omega)
            ·
              exact absurd rfl h_1000
          ·
            exact absurd h_952 h_989
        ·
          refine j_iconstN (k := 1) d_L_law_955 (by decide) ?_
          refine j_goto (tgt := 960) d_L_law_956 (by decide) ?_
          refine cl_L_126 (c_D_threes l V S hO (xs (i + 1)) (xs (i + 2)) (xs (i + 3)) (xs (i + 4)) (1) (by decide)) d_L_law_960 rfl rfl (g_ftL (by decide)) (Nat.le_of_ble_eq_true rfl) ?_
          rintro r V1 S1 hp
          obtain ⟨a9, rfl, hM, hnx⟩ := R_threes hR ht (xs (i + 1)) (xs (i + 2)) (xs (i + 3)) (xs (i + 4)) (1) hp
          refine j_aload_n (i := 2) d_L_law_963 rfl lg2 ?_
          refine j_aload_n (i := 0) d_L_law_964 rfl lg0 ?_
          refine j_iload_n (i := 3) d_L_law_965 rfl lg3 ?_
          refine j_iconstN (k := 1) d_L_law_966 (by decide) ?_
          refine j_iaddN d_L_law_967 ?_
          refine j_sld d_L_law_968 (by omega) ?_
          refine j_aload_n (i := 0) d_L_law_969 rfl lg0 ?_
          refine j_iload_n (i := 3) d_L_law_970 rfl lg3 ?_
          refine j_iconstN (k := 2) d_L_law_971 (by decide) ?_
          refine j_iaddN d_L_law_972 ?_
          refine j_sld d_L_law_973 (by omega) ?_
          refine j_aload_n (i := 0) d_L_law_974 rfl lg0 ?_
          refine j_iload_n (i := 3) d_L_law_975 rfl lg3 ?_
          refine j_iconstN (k := 3) d_L_law_976 (by decide) ?_
          refine j_iaddN d_L_law_977 ?_
          refine j_sld d_L_law_978 (by omega) ?_
          refine j_aload_n (i := 0) d_L_law_979 rfl lg0 ?_
          refine j_iload_n (i := 3) d_L_law_980 rfl lg3 ?_
          refine j_iconstN (k := 4) d_L_law_981 (by decide) ?_
          refine j_iaddN d_L_law_982 ?_
          refine j_sld d_L_law_983 (by omega) ?_
          refine j_aload_n (i := 0) d_L_law_984 rfl lg0 ?_
          refine j_iload_n (i := 3) d_L_law_985 rfl lg3 ?_
          refine j_iconstN (k := 5) d_L_law_986 (by decide) ?_
          refine j_iaddN d_L_law_987 ?_
          refine j_sld d_L_law_988 (by omega) ?_
          refine j_if_eq (tgt := 996) d_L_law_989 (by decide) (fun h_989 => ?_) (fun h_989 => ?_)
          ·
            exact absurd h_989 h_952
          ·
            refine j_iconstN (k := 1) d_L_law_992 (by decide) ?_
            refine j_goto (tgt := 997) d_L_law_993 (by decide) ?_
            refine cl_L_130 (c_M_threes l V1 S1 hM (xs (i + 1)) (xs (i + 2)) (xs (i + 3)) (xs (i + 4)) (1) (by decide)) d_L_law_997 rfl rfl (g_ftL (by decide)) (Nat.le_of_ble_eq_true rfl) ?_
            rintro r2 V3 S3 hp2
            obtain ⟨rfl, hR3⟩ := hnx _ _ _ hp2
            refine j_icmp_eq (tgt := 1128) d_L_law_1000 (by decide) (fun h_1000 => ?_) (fun h_1000 => ?_)
            ·
              refine j_iincN (k := 6) d_L_law_1128 lg3 (by decide) ls3r ?_
              refine j_goto (tgt := 18) d_L_law_1131 (by decide) ?_
              exact ih (t + 1) (i + 6) V3 S3 hR3 (by omega) (by omega) (by omega)
            ·
              exact absurd rfl h_1000
      by_cases h_33_27 : k = 27
      ·
        refine j_tableIn (tgt := 1005) d_L_law_33 (by rw [hs_33, h_33_27]; decide) (by rw [hs_33, h_33_27]; decide) (by rw [hs_33, h_33_27]; rfl) (by decide) ?_
        refine j_aload_n (i := 1) d_L_law_1005 rfl lg1 ?_
        refine j_aload_n (i := 0) d_L_law_1006 rfl lg0 ?_
        refine j_iload_n (i := 3) d_L_law_1007 rfl lg3 ?_
        refine j_iconstN (k := 1) d_L_law_1008 (by decide) ?_
        refine j_iaddN d_L_law_1009 ?_
        refine j_sld d_L_law_1010 (by omega) ?_
        refine j_i2l d_L_law_1011 ?_
        refine j_bipushN (k := 32) d_L_law_1012 (by decide) ?_
        refine j_lshl d_L_law_1014 ?_
        refine j_aload_n (i := 0) d_L_law_1015 rfl lg0 ?_
        refine j_iload_n (i := 3) d_L_law_1016 rfl lg3 ?_
        refine j_iconstN (k := 2) d_L_law_1017 (by decide) ?_
        refine j_iaddN d_L_law_1018 ?_
        refine j_sld d_L_law_1019 (by omega) ?_
        refine j_i2l d_L_law_1020 ?_
        refine j_ldc2 (v := 4294967295) d_L_law_1021 (g_use (List.mem_of_getElem? (i := 797) (by decide +kernel)) rfl) ?_
        refine j_land d_L_law_1024 ?_
        refine j_lor d_L_law_1025 ?_
        refine cl_L_131 (c_D_seed l V S ((((xs (i + 1)).toInt64) <<< ((nI (32)).toInt64 &&& 63)) ||| (((xs (i + 2)).toInt64) &&& 4294967295))) d_L_law_1026 rfl rfl (g_ftL (by decide)) (Nat.le_of_ble_eq_true rfl) ?_
        rintro r V1 S1 hp
        obtain ⟨a9, rfl, hM, hnx⟩ := R_seed hR ht ((((xs (i + 1)).toInt64) <<< ((nI (32)).toInt64 &&& 63)) ||| (((xs (i + 2)).toInt64) &&& 4294967295)) hp
        refine j_aload_n (i := 2) d_L_law_1029 rfl lg2 ?_
        refine j_aload_n (i := 0) d_L_law_1030 rfl lg0 ?_
        refine j_iload_n (i := 3) d_L_law_1031 rfl lg3 ?_
        refine j_iconstN (k := 1) d_L_law_1032 (by decide) ?_
        refine j_iaddN d_L_law_1033 ?_
        refine j_sld d_L_law_1034 (by omega) ?_
        refine j_i2l d_L_law_1035 ?_
        refine j_bipushN (k := 32) d_L_law_1036 (by decide) ?_
        refine j_lshl d_L_law_1038 ?_
        refine j_aload_n (i := 0) d_L_law_1039 rfl lg0 ?_
        refine j_iload_n (i := 3) d_L_law_1040 rfl lg3 ?_
        refine j_iconstN (k := 2) d_L_law_1041 (by decide) ?_
        refine j_iaddN d_L_law_1042 ?_
        refine j_sld d_L_law_1043 (by omega) ?_
        refine j_i2l d_L_law_1044 ?_
        refine j_ldc2 (v := 4294967295) d_L_law_1045 (g_use (List.mem_of_getElem? (i := 797) (by decide +kernel)) rfl) ?_
        refine j_land d_L_law_1048 ?_
        refine j_lor d_L_law_1049 ?_
        refine cl_L_135 (c_M_seed l V1 S1 hM.1.1 ((((xs (i + 1)).toInt64) <<< ((nI (32)).toInt64 &&& 63)) ||| (((xs (i + 2)).toInt64) &&& 4294967295))) d_L_law_1050 rfl rfl (g_ftL (by decide)) (Nat.le_of_ble_eq_true rfl) ?_
        rintro r2 V3 S3 hp2
        obtain ⟨rfl, hR3⟩ := hnx _ _ _ hp2
        refine j_lcmp d_L_law_1053 ?_
        rw [show lg_cmp a9 a9 = nI 0 from by rw [g_cmp0]]
        refine j_if_eqN (tgt := 1128) d_L_law_1054 (by decide) (by omega) (fun _ => ?_) (fun h => absurd h (by decide))
        refine j_iincN (k := 6) d_L_law_1128 lg3 (by decide) ls3r ?_
        refine j_goto (tgt := 18) d_L_law_1131 (by decide) ?_
        exact ih (t + 1) (i + 6) V3 S3 hR3 (by omega) (by omega) (by omega)
      by_cases h_33_28 : k = 28
      ·
        refine j_tableIn (tgt := 1059) d_L_law_33 (by rw [hs_33, h_33_28]; decide) (by rw [hs_33, h_33_28]; decide) (by rw [hs_33, h_33_28]; rfl) (by decide) ?_
        refine j_aload_n (i := 1) d_L_law_1059 rfl lg1 ?_
        refine j_aload_n (i := 0) d_L_law_1060 rfl lg0 ?_
        refine j_iload_n (i := 3) d_L_law_1061 rfl lg3 ?_
        refine j_iconstN (k := 1) d_L_law_1062 (by decide) ?_
        refine j_iaddN d_L_law_1063 ?_
        refine j_sld d_L_law_1064 (by omega) ?_
        refine cl_L_136 (c_D_winters l V S hO (xs (i + 1))) d_L_law_1065 rfl rfl (g_ftL (by decide)) (Nat.le_of_ble_eq_true rfl) ?_
        rintro r V1 S1 hp
        obtain ⟨a9, rfl, hM, hnx⟩ := R_winters hR ht (xs (i + 1)) hp
        refine j_aload_n (i := 2) d_L_law_1068 rfl lg2 ?_
        refine j_aload_n (i := 0) d_L_law_1069 rfl lg0 ?_
        refine j_iload_n (i := 3) d_L_law_1070 rfl lg3 ?_
        refine j_iconstN (k := 1) d_L_law_1071 (by decide) ?_
        refine j_iaddN d_L_law_1072 ?_
        refine j_sld d_L_law_1073 (by omega) ?_
        refine cl_L_139 (c_M_winters l V1 S1 hM (xs (i + 1))) d_L_law_1074 rfl rfl (g_ftL (by decide)) (Nat.le_of_ble_eq_true rfl) ?_
        rintro r2 V3 S3 hp2
        obtain ⟨rfl, hR3⟩ := hnx _ _ _ hp2
        refine j_icmp_eq (tgt := 1128) d_L_law_1077 (by decide) (fun h_1077 => ?_) (fun h_1077 => ?_)
        ·
          refine j_iincN (k := 6) d_L_law_1128 lg3 (by decide) ls3r ?_
          refine j_goto (tgt := 18) d_L_law_1131 (by decide) ?_
          exact ih (t + 1) (i + 6) V3 S3 hR3 (by omega) (by omega) (by omega)
        ·
          exact absurd rfl h_1077
      by_cases h_33_29 : k = 29
      ·
        refine j_tableIn (tgt := 1082) d_L_law_33 (by rw [hs_33, h_33_29]; decide) (by rw [hs_33, h_33_29]; decide) (by rw [hs_33, h_33_29]; rfl) (by decide) ?_
        refine j_aload_n (i := 1) d_L_law_1082 rfl lg1 ?_
        refine j_aload_n (i := 0) d_L_law_1083 rfl lg0 ?_
        refine j_iload_n (i := 3) d_L_law_1084 rfl lg3 ?_
        refine j_iconstN (k := 1) d_L_law_1085 (by decide) ?_
        refine j_iaddN d_L_law_1086 ?_
        refine j_sld d_L_law_1087 (by omega) ?_
        refine cl_L_140 (c_D_keep l V S hO (xs (i + 1))) d_L_law_1088 rfl rfl (g_ftL (by decide)) (Nat.le_of_ble_eq_true rfl) ?_
        rintro r V1 S1 hp
        obtain ⟨a9, rfl, hM, hnx⟩ := R_keep hR ht (xs (i + 1)) hp
        refine j_aload_n (i := 2) d_L_law_1091 rfl lg2 ?_
        refine j_aload_n (i := 0) d_L_law_1092 rfl lg0 ?_
        refine j_iload_n (i := 3) d_L_law_1093 rfl lg3 ?_
        refine j_iconstN (k := 1) d_L_law_1094 (by decide) ?_
        refine j_iaddN d_L_law_1095 ?_
        refine j_sld d_L_law_1096 (by omega) ?_
        refine cl_L_143 (c_M_keep l V1 S1 hM (xs (i + 1))) d_L_law_1097 rfl rfl (g_ftL (by decide)) (Nat.le_of_ble_eq_true rfl) ?_
        rintro r2 V3 S3 hp2
        obtain ⟨rfl, hR3⟩ := hnx _ _ _ hp2
        refine j_icmp_eq (tgt := 1128) d_L_law_1100 (by decide) (fun h_1100 => ?_) (fun h_1100 => ?_)
        ·
          refine j_iincN (k := 6) d_L_law_1128 lg3 (by decide) ls3r ?_
          refine j_goto (tgt := 18) d_L_law_1131 (by decide) ?_
          exact ih (t + 1) (i + 6) V3 S3 hR3 (by omega) (by omega) (by omega)
        ·
          exact absurd rfl h_1100
      by_cases h_33_30 : k = 30
      ·
        refine j_tableIn (tgt := 1105) d_L_law_33 (by rw [hs_33, h_33_30]; decide) (by rw [hs_33, h_33_30]; decide) (by rw [hs_33, h_33_30]; rfl) (by decide) ?_
        refine j_aload_n (i := 1) d_L_law_1105 rfl lg1 ?_
        refine j_aload_n (i := 0) d_L_law_1106 rfl lg0 ?_
        refine j_iload_n (i := 3) d_L_law_1107 rfl lg3 ?_
        refine j_iconstN (k := 1) d_L_law_1108 (by decide) ?_
        refine j_iaddN d_L_law_1109 ?_
        refine j_sld d_L_law_1110 (by omega) ?_
        refine cl_L_144 (c_D_again l V S hO (xs (i + 1))) d_L_law_1111 rfl rfl (g_ftL (by decide)) (Nat.le_of_ble_eq_true rfl) ?_
        rintro r V1 S1 hp
        obtain ⟨a9, rfl, hM, hnx⟩ := R_again hR ht (xs (i + 1)) hp
        refine j_aload_n (i := 2) d_L_law_1114 rfl lg2 ?_
        refine j_aload_n (i := 0) d_L_law_1115 rfl lg0 ?_
        refine j_iload_n (i := 3) d_L_law_1116 rfl lg3 ?_
        refine j_iconstN (k := 1) d_L_law_1117 (by decide) ?_
        refine j_iaddN d_L_law_1118 ?_
        refine j_sld d_L_law_1119 (by omega) ?_
        refine cl_L_147 (c_M_again l V1 S1 hM.1 hM.2 (xs (i + 1))) d_L_law_1120 rfl rfl (g_ftL (by decide)) (Nat.le_of_ble_eq_true rfl) ?_
        rintro r2 V3 S3 hp2
        obtain ⟨rfl, hR3⟩ := hnx _ _ _ hp2
        refine j_icmp_eq (tgt := 1128) d_L_law_1123 (by decide) (fun h_1123 => ?_) (fun h_1123 => ?_)
        ·
          refine j_iincN (k := 6) d_L_law_1128 lg3 (by decide) ls3r ?_
          refine j_goto (tgt := 18) d_L_law_1131 (by decide) ?_
          exact ih (t + 1) (i + 6) V3 S3 hR3 (by omega) (by omega) (by omega)
        ·
          exact absurd rfl h_1123
      refine j_tableOut (tgt := 1128) d_L_law_33 (by rw [hs_33]; omega) (by decide) ?_
      refine j_iincN (k := 6) d_L_law_1128 lg3 (by decide) ls3r ?_
      refine j_goto (tgt := 18) d_L_law_1131 (by decide) ?_
      exact ih (t + 1) (i + 6) V S (R_fr hR g_fr_0 hR.1.2.2 (by omega)) (by omega) (by omega) (by omega)
