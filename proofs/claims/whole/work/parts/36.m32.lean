/-! The two side by side: words that see the same say the same. -/
def g_ag (V W : g_V) : Prop :=
  (V 0 1 ≤ 6 ∧ W 0 1 = V 0 1 ∧ W 0 8 = V 0 8 ∧ W 1 1 = V 1 1) ∧
  (∀ i, i < 6 → (W 3 i = V 3 i ∧ W 4 i = V 4 i ∧ W 5 i = V 5 i) ∧ (W (hB 0 + 1) i = V (hB 0 + 1) i ∧ W (hB 0 + 2) i = V (hB 0 + 2) i ∧ W (hB 0 + 3) i = V (hB 0 + 3) i)) ∧
  (W (hB 0) 4 = V (hB 0) 4 ∧ W (hB 0) 5 = V (hB 0) 5 ∧ W (hB 0) 6 = V (hB 0) 6) ∧
  ∀ a b, a < 6 → b < 6 → D_ow W a b = D_ow V a b
theorem q_pick_ext {n b : Nat} {s t : Nat → Nat} (h : ∀ i, i < n → s i = t i) : q_pick n s b = q_pick n t b :=
  q_sum_ext fun i hi => by rw [h i hi]
theorem q_lack_ext {n b x : Nat} {s t : Nat → Nat} (h : ∀ i, i < n → s i = t i) : q_lack n s b x = q_lack n t b x :=
  q_sum_ext fun i hi => by rw [h i hi]
theorem q_net_ext {s t : Nat → Nat → Nat} {f : Nat} (hf : f < 6) (h : ∀ a b, a < 6 → b < 6 → s a b = t a b) : ∀ n, n ≤ 6 → q_net s f n = q_net t f n
  | 0, _ => rfl
  | n + 1, hn => by
    show q_net s f n + _ = q_net t f n + _
    rw [q_net_ext hf h n (by omega), h n f (by omega) hf, h f n hf (by omega)]
theorem q_sz_ext {z y : Nat → Int32} {s : Nat} : ∀ n, (∀ i, i < n → z i = y i) → q_sz z s n = q_sz y s n
  | 0, _ => rfl
  | n + 1, h => by
    show (if _ then _ else _) = (if _ then _ else _)
    rw [q_sz_ext n (fun i hi => h i (by omega)), h n (by omega)]
theorem q_gv_z {z y : Nat → Int32} {n s : Nat} {t : Nat → Nat} (h : ∀ i, i < n → z i = y i) : q_gv z n t s = q_gv y n t s := by
  unfold q_gv
  rw [q_sz_ext n h]
theorem q_gt_z {z y : Nat → Int32} {n : Nat} {t : Nat → Nat} (h : ∀ i, i < n → z i = y i) : ∀ k, q_gt z n t k = q_gt y n t k
  | 0 => rfl
  | k + 1 => by
    funext j
    show (if _ then _ else _) = (if _ then _ else _)
    rw [q_gt_z h k, q_gv_z h]
theorem q_uns_z {z y : Nat → Int32} {n : Nat} (h : ∀ i, i < n → z i = y i) : q_uns z n = q_uns y n :=
  q_or_ext fun i hi => by rw [h i hi]
theorem q_hh_ext {kd kd' gr gr' xs h0 h0' : Nat → Nat} {n : Nat} (hn : n ≤ 6) (hk : ∀ i, i < 6 → kd i = kd' i) (hg : ∀ i, i < 6 → gr i = gr' i) (hh : ∀ i, i < 6 → h0 i = h0' i) : ∀ k i, i < 6 → q_hh kd gr n xs h0 k i = q_hh kd' gr' n xs h0' k i
  | 0, i, hi => hh i hi
  | k + 1, i, hi => by
    show (if _ then _ else _) = (if _ then _ else _)
    rw [q_hh_ext hn hk hg hh k i hi, hk i hi, hg i hi]
theorem q_hb_ext {kd kd' gr gr' xs h0 h0' : Nat → Nat} {n : Nat} (hn : n ≤ 6) (hk : ∀ i, i < 6 → kd i = kd' i) (hg : ∀ i, i < 6 → gr i = gr' i) (hh : ∀ i, i < 6 → h0 i = h0' i) (k : Nat) : q_hb kd gr n xs h0 k = q_hb kd' gr' n xs h0' k :=
  q_brk_ext fun i hi => by rw [q_hh_ext hn hk hg hh k i (by omega), hk i (by omega), hg i (by omega)]
section AGR
variable {V W : g_V}
theorem A_str (h : g_ag V W) : ∀ i, i < 6 → D_str W i = D_str V i := fun i hi => by
  unfold D_str
  rw [(h.2.1 i hi).1.1, (h.2.1 i hi).1.2.2, (h.2.1 i hi).2.1]
theorem A_brk (h : g_ag V W) (x : Nat) : q_brk (W 0 1) (D_str W) x = q_brk (V 0 1) (D_str V) x := by
  have hn := h.1.1
  rw [h.1.2.1]
  exact q_brk_ext fun i hi => A_str h i (by omega)
theorem A_pick (h : g_ag V W) (b : Nat) : q_pick (W 0 1) (W 4) b = q_pick (V 0 1) (V 4) b := by
  have hn := h.1.1
  rw [h.1.2.1]
  exact q_pick_ext fun i hi => (h.2.1 i (by omega)).1.2.1
theorem A_clay (h : g_ag V W) (b : Nat) : q_pick (W 0 1) (W (hB 0 + 2)) b = q_pick (V 0 1) (V (hB 0 + 2)) b := by
  have hn := h.1.1
  rw [h.1.2.1]
  exact q_pick_ext fun i hi => (h.2.1 i (by omega)).2.2.1
theorem A_lack (h : g_ag V W) (b x : Nat) : q_lack (W 0 1) (D_str W) b x = q_lack (V 0 1) (D_str V) b x := by
  have hn := h.1.1
  rw [h.1.2.1]
  exact q_lack_ext fun i hi => A_str h i (by omega)
theorem A_wt (h : g_ag V W) (k : Nat) : q_wet (W 0 1) (W (hB 0) 5) k = q_wet (V 0 1) (V (hB 0) 5) k := by
  rw [h.1.2.1, h.2.2.1.2.1]
theorem A_net (h : g_ag V W) {f : Nat} (hf : f < 6) : q_net (D_ow W) f (W 0 1) = q_net (D_ow V) f (V 0 1) := by
  rw [h.1.2.1]
  exact q_net_ext hf h.2.2.2 _ h.1.1
theorem A_lw (h : g_ag V W) : D_lw W = D_lw V := funext fun i => by
  unfold D_lw
  rw [A_pick h, A_wt h, h.1.2.1]
theorem A_as (h : g_ag V W) (x : Nat) : D_as W x = D_as V x := by
  unfold D_as
  rw [A_brk h, h.1.2.1]
theorem A_cf (h : g_ag V W) (x : Nat) : D_cf W x = D_cf V x := funext fun i => by
  unfold D_cf
  rw [A_as h, A_lack h]
theorem A_best (h : g_ag V W) (x c : Nat) : D_best W x c = D_best V x c := by
  unfold D_best
  rw [A_lw h, A_cf h, h.1.2.1]
theorem A_cl (h : g_ag V W) (k : Nat) : D_cl W k = D_cl V k := A_clay h k
theorem A_bl (h : g_ag V W) (x k : Nat) : D_bl W x k = D_bl V x k := by
  unfold D_bl
  rw [A_lw h, A_cl h, A_best h]
theorem A_sh (h : g_ag V W) (f x : Nat) : D_sh W f x = D_sh V f x := by
  unfold D_sh
  rw [h.1.2.1]
  refine q_sum_ext fun k _ => ?_
  unfold D_shf
  rw [A_bl h, A_bl h, h.1.2.1]
theorem A_wetr (h : g_ag V W) (c : Nat) (w : Int32) : D_wetr W c w = D_wetr V c w := by
  have e : D_wt W = D_wt V := funext fun k => A_wt h k
  unfold D_wetr
  rw [e, h.1.2.1]
theorem A_lone (h : g_ag V W) : D_lone W = D_lone V := funext fun k => by
  unfold D_lone
  rw [A_pick h, A_wt h]
theorem A_z (h : g_ag V W) : ∀ f, f < V 0 1 → D_z W f = D_z V f := fun f hf => A_net h (by have := h.1.1; omega)
theorem A_about (h : g_ag V W) (w : Int32) : D_about W w = D_about V w := by
  unfold D_about
  rw [A_clay h, h.1.2.1, h.1.2.2.1, h.1.2.2.2, h.2.2.1.1, h.2.2.1.2.1, h.2.2.1.2.2]
theorem A_farm (h : g_ag V W) {f : Nat} (hf : f < 6) (w : Int32) : D_farm W f w = D_farm V f w := by
  unfold D_farm
  rw [A_str h f hf, (h.2.1 f hf).1.1, (h.2.1 f hf).1.2.1, (h.2.1 f hf).1.2.2, (h.2.1 f hf).2.1, (h.2.1 f hf).2.2.1, (h.2.1 f hf).2.2.2]
theorem A_gv (h : g_ag V W) {s : Nat} (hs : s < 6) (x g : Nat) : D_gv W s x g = D_gv V s x g := by
  unfold D_gv
  rw [A_brk h, A_str h s hs, A_wt h]
theorem A_lo (h : g_ag V W) {s x f g p : Nat} (hs : s < 6) (hf : f < 6) (hgp : g + p < 7) : D_lo (g_rg W s x 7) f g p = D_lo (g_rg V s x 7) f g p := by
  unfold D_lo
  rw [g_rg_S hgp, g_rg_S hgp, A_gv h hs, g_rg_N (by decide), g_rg_N (by decide), (h.2.1 f hf).1.2.1]
theorem A_con (h : g_ag V W) {s x f g p : Nat} (hs : s < 6) (hf : f < 6) (hg : g < 4) (hp : p < 4) : D_con (g_rg W s x 7) f g p ↔ D_con (g_rg V s x 7) f g p := by
  constructor
  · intro q k hk
    have := q k hk
    rw [A_lo h hs hf (by omega), A_lo h hs hf (by omega)] at this
    exact this
  · intro q k hk
    have := q k hk
    rw [A_lo h hs hf (by omega), A_lo h hs hf (by omega)]
    exact this
theorem A_okb (h : g_ag V W) {s x f e j : Nat} (hs : s < 6) (hf : f < 6) (he : e < 6) (hj : j < 16) : D_okb (g_rg W s x 7) f e j = D_okb (g_rg V s x 7) f e j := by
  unfold D_okb
  rw [decide_eq_decide]
  unfold D_ok
  rw [A_con h hs hf (by omega) (by omega), A_con h hs he (by omega) (by omega)]
theorem q_rc_ext {ok ok' : Nat → Bool} : ∀ j, (∀ i, i < j → ok i = ok' i) → q_rc ok j = q_rc ok' j
  | 0, _ => rfl
  | j + 1, e => by
    show (if _ then _ else _) = (if _ then _ else _)
    rw [q_rc_ext j (fun i hi => e i (by omega)), e j (by omega)]
theorem q_r1_ext {ok ok' : Nat → Bool} : ∀ j, (∀ i, i < j → ok i = ok' i) → q_r1 ok j = q_r1 ok' j
  | 0, _ => rfl
  | j + 1, e => by
    show (if _ then _ else _) = (if _ then _ else _)
    rw [q_r1_ext j (fun i hi => e i (by omega)), e j (by omega)]
theorem A_rc (h : g_ag V W) {s x f e : Nat} (hs : s < 6) (hf : f < 6) (he : e < 6) : q_rc (D_okb (g_rg W s x 7) f e) 16 = q_rc (D_okb (g_rg V s x 7) f e) 16 := q_rc_ext 16 fun j hj => A_okb h hs hf he hj
theorem A_r1 (h : g_ag V W) {s x f e : Nat} (hs : s < 6) (hf : f < 6) (he : e < 6) : q_r1 (D_okb (g_rg W s x 7) f e) 16 = q_r1 (D_okb (g_rg V s x 7) f e) 16 := q_r1_ext 16 fun j hj => A_okb h hs hf he hj
theorem A_thf (h : g_ag V W) {s : Nat} (hs : s < 6) (a b t : Nat) : D_thf W s a b t = D_thf V s a b t := funext fun r => by
  unfold D_thf
  rw [(h.2.1 s hs).1.1, (h.2.1 s hs).1.2.2, (h.2.1 s hs).2.1]
theorem A_hb (h : g_ag V W) {h0 h0' xs : Nat → Nat} (e : ∀ i, i < 6 → h0' i = h0 i) (k : Nat) : q_hb (W 5) (W 3) (W 0 1) xs h0' k = q_hb (V 5) (V 3) (V 0 1) xs h0 k := by
  rw [h.1.2.1]
  exact q_hb_ext h.1.1 (fun i hi => (h.2.1 i hi).1.2.2) (fun i hi => (h.2.1 i hi).1.1) e k
theorem A_told (h : g_ag V W) {h0 h0' : Nat → Nat} (e : ∀ i, i < 6 → h0' i = h0 i) {s : Nat} (hs : s < 6) (k0 m : Nat) (w : Int32) : D_told W h0' s k0 m w = D_told V h0 s k0 m w := by
  have hh : q_hh (W 5) (W 3) (W 0 1) (D_xs k0 m) h0' k0 s = q_hh (V 5) (V 3) (V 0 1) (D_xs k0 m) h0 k0 s := by
    rw [h.1.2.1]
    exact q_hh_ext h.1.1 (fun i hi => (h.2.1 i hi).1.2.2) (fun i hi => (h.2.1 i hi).1.1) e k0 s hs
  have e1 : (fun j => decide (¬ q_hb (W 5) (W 3) (W 0 1) (D_xs k0 m) h0' j = 0)) = (fun j => decide (¬ q_hb (V 5) (V 3) (V 0 1) (D_xs k0 m) h0 j = 0)) := funext fun j => by rw [A_hb h e]
  have e2 : (fun j => decide ((q_hb (W 5) (W 3) (W 0 1) (D_xs k0 m) h0' j).testBit s = true)) = (fun j => decide ((q_hb (V 5) (V 3) (V 0 1) (D_xs k0 m) h0 j).testBit s = true)) := funext fun j => by rw [A_hb h e]
  unfold D_told
  rw [hh, e1, e2]
theorem A_wl (h : g_ag V W) {h0 h0' : Nat → Nat} (e : ∀ i, i < 6 → h0' i = h0 i) (z : Int64) : D_wl W h0' z = D_wl V h0 z := funext fun k => by
  unfold D_wl
  rw [A_hb h e, A_pick h, A_wt h]
end AGR
