/-! ROWS OF CALLS AND RETURNS; what a method's contract is (Ex) -/
def mt_len : Bool := mtL.all (fun q => decide (q.1.2.2.1 ≤ 45))
theorem mt_lenT : mt_len = true := by decide +kernel
theorem mt_ml {n : Nat} {x : mt_T} (h : mt_at n x) : x.2.2.1 ≤ 45 := by
  obtain ⟨a, b, h⟩ := h
  have := List.all_eq_true.mp mt_lenT _ (List.mem_of_getElem? h)
  simpa using this
theorem mt_fn {n : Nat} {x y : mt_T} (h : mt_at n x) (g : mt_at n y) : x = y := by
  obtain ⟨a, b, h⟩ := h
  obtain ⟨c, e, g⟩ := g
  rw [h] at g
  cases g
  rfl
theorem mt_facts {n : Nat} {x : mt_T} (h : mt_at n x) : Cond.code x.1 x.2.1 x.2.2.1 x.2.2.2.1 ∈ gd_W ∧ Cond.initialized x.1.cls ∈ gd_W ∧ plainName x.1.cls = true ∧ x.1.cls = cn x.2.2.2.2 ∧ x.1.cls ≠ "java/lang/invoke/MethodHandle" ∧ x.1.cls ≠ "java/lang/invoke/VarHandle" := by
  obtain ⟨a, b, h⟩ := h
  obtain ⟨h1, h2, h3⟩ := mt_okA _ (List.mem_of_getElem? h)
  exact ⟨gd_in (List.mem_of_getElem? h1) rfl, gd_in (List.mem_of_getElem? h2) rfl, h3⟩
theorem gd_good : ∀ x ∈ gd_W, goodWord x = true := fun x hx => (List.mem_filter.mp hx).2
theorem gd_self {y : MethodName} {b : ByteArray} {n : Nat} {r : Option FieldType} (h : Cond.code y b n r ∈ gd_W) : GoodIn gd_W (Cond.code y b n r :: gd_W) := by
  intro x hx
  have hm : x ∈ gd_W := by
    rcases List.mem_cons.mp hx with rfl | g
    · exact h
    · exact g
  exact ⟨hm, good_of_word (gd_good x hm)⟩
def rm_ (d c s : Nat) : Room := { frames := d, cells := c, slots := s, locals := 64 * d }
def Pc_ (w : wc_T) (args : List Value) (h : hp_T) : Array Value → State → Prop := fun a U => a = (args.map (cv w)).toArray ∧ Rp w h U.heap ∧ Wd w U U.heap ∧ w.1 ≤ U.heap.size
def Qc_ (w : wc_T) (n0 : Nat × Nat) (Q : Option Value → hp_T → Prop) : Array Value → State → Outcome → State → Prop := fun _ s0 oc t => ∃ (v : Option Value) (h1 : hp_T), Q v h1 ∧ h1.1 = n0 ∧ oc = .returned (v.map (cv w)) ∧ Rp w h1 t.heap ∧ va_F (w_A w) s0 t
/-- THE CONTRACT: method n, called with args in a world that h says, with at most d frames above it: comes back with v, in a world that h1 says, of which Q v h1 holds; it makes c cells of s slots -/
def Ex (d n : Nat) (args : List Value) (h : hp_T) (c s : Nat) (Q : Option Value → hp_T → Prop) : Prop :=
  ∀ (l : Launch) (w : wc_T) (x : mt_T), mt_at n x → Met l x.1 (Cond.code x.1 x.2.1 x.2.2.1 x.2.2.2.1 :: gd_W) (rm_ d c s) (Pc_ w args h) (Qc_ w (h_n h + c, h_s h + s) Q) c s (w_A w)
theorem Wd.same {w : wc_T} {u U : State} {H : Heap} (hv : U.vm = u.vm) (h : Wd w u H) : Wd w U H := by
  obtain ⟨a1, a2, a3, a4, a5, a6, a7, a8, a9⟩ := h
  have ha : u.vm.Alike U.vm := by rw [hv]; exact Vm.Alike.refl _
  refine ⟨a1.moved ha, a2.moved ha, a3, ⟨a4.1.moved ha, a4.2.moved ha⟩, ⟨a5.1.moved ha, a5.2.moved ha⟩, ⟨a6.1.moved ha, a6.2.moved ha⟩, fun i hi => ?_, fun a i x b hx => va_Nw.same rfl hv.symm (a8 a i x b hx), ⟨va_Nw.same rfl hv.symm a9.1, ov_same hv a9.2⟩⟩
  obtain ⟨b1, b2, b3, b4, b5⟩ := a7 i hi
  exact ⟨b1.same hv, b2.moved ha, b3.moved ha, b4.moved ha, b5.moved ha⟩
theorem Pc_blind {w : wc_T} {args : List Value} {h : hp_T} : FrameBlind (Pc_ w args h) := fun a U g mk q => ⟨q.1, q.2.1, q.2.2.1.same (u := U) (U := U.calling g mk a) rfl, q.2.2.2⟩
section RC
variable {w : wc_T} {κ : cx_T} {d own nL : Nat} {cc : ByteArray} {rt : Option FieldType} {Φ : Option Value → hp_T → Prop} {pc : Nat} {L : List (Option Value)} {st : List Value} {h : hp_T}
/-- behind a call -/
theorem go_call (X : CX w κ d own cc nL rt Φ) {H : Heap} {locs : List Loc} {ls : Array Slot} {mc ms : Nat} {Q : Option Value → hp_T → Prop} {st0 : List Value} {a : Array Value} (hR : Rp w h H) (hS : va_S (w_A w) (k_s κ).heap H locs) (hL : LR w ls L) (hg : (k_0 κ).1 ≤ h_n h ∧ h_n h ≤ (k_1 κ).1 ∧ (k_0 κ).2 ≤ h_s h ∧ h_s h ≤ (k_1 κ).2)
    (hc : h_n h + mc ≤ (k_1 κ).1 ∧ h_s h + ms ≤ (k_1 κ).2)
    (hr : va_Run κ.1 κ.2.1 κ.2.2.1 (k_R κ) (k_s κ) (k_m κ) (k_a κ) (k_b κ) (k_t κ) (k_c κ) H locs (h_n h - (k_0 κ).1) (h_s h - (k_0 κ).2) mc ms (F0 (k_m κ) pc ls st0) (st.map (cv w)) (Qc_ w (h_n h + mc, h_s h + ms) Q a) (w_A w))
    (kk : ∀ (v : Option Value) (h1 : hp_T), Q v h1 → h1.1 = (h_n h + mc, h_s h + ms) → GG w κ (pc + 3) L (v.toList ++ st) h1) : Wk κ h H locs (F0 (k_m κ) pc ls st0) := by
  intro T hT XS
  obtain ⟨v', s0, t, T', LL, h0, X', hLL, e1, -, ⟨v, h1, hQ, hn, hq1, hq2, hq3⟩, hst⟩ := hr T hT XS
  have hv : v' = v.map (cv w) := by cases hq1; rfl
  subst hv
  have n1 : h_n h1 = h_n h + mc := congrArg Prod.fst hn
  have n2 : h_s h1 = h_s h + ms := congrArg Prod.snd hn
  have hS1 : va_S (w_A w) (k_s κ).heap T'.heap (locs ++ LL) := by
    rw [e1]
    unfold va_F at hq3
    rw [h0] at hq3
    refine ⟨Nat.le_trans hS.1 hq3.1, fun q g1 g2 => (hq3.2 q (Nat.lt_of_lt_of_le g1 hS.1) g2).trans (hS.2.1 q g1 g2), fun q hq => ?_⟩
    rcases List.mem_append.mp hq with g | g
    · exact hS.2.2 q g
    · exact hLL q g
  have k1 := kk v h1 hQ hn (by omega) T'.heap (locs ++ LL) ls (by rw [e1]; exact hq2) hS1 hL
  unfold Wk at k1
  rw [show h_n h1 - (k_0 κ).1 = h_n h - (k_0 κ).1 + mc by omega, show h_s h1 - (k_0 κ).2 = h_s h - (k_0 κ).2 + ms by omega] at k1
  obtain ⟨t2, b1, b2⟩ := k1 T' rfl X'
  refine ⟨t2, hst t2 ?_, b2⟩
  have e : List.map (cv w) (v.toList ++ st) = (v.map (cv w)).toList ++ st.map (cv w) := by
    cases v <;> rfl
  rw [e] at b1
  exact b1
theorem call_pre (X : CX w κ d own cc nL rt Φ) {H : Heap} {locs : List Loc} (hR : Rp w h H) (hS : va_S (w_A w) (k_s κ).heap H locs) {As : List Value} : ∀ U : State, U.heap = H → (k_s κ).WarmedH U.vm → Pc_ w As h (As.map (cv w)).toArray U := by
  intro U hU hW
  refine ⟨rfl, by rw [hU]; exact hR, by rw [hU]; exact X.wd.go hW hS, ?_⟩
  rw [hU, hR.2.1]
  omega
theorem call_fit (X : CX w κ (d + 1) own cc nL rt Φ) {n c s : Nat} {x : mt_T} (hm : mt_at n x) : (rm_ d c s).frames + 1 ≤ (k_R κ).frames ∧ 8 + (x.2.2.1 + 11) + (rm_ d c s).locals ≤ (k_R κ).locals := by
  have h1 := X.fr
  have h2 := mt_ml hm
  have e1 : (rm_ d c s).frames = d := rfl
  have e2 : (rm_ d c s).locals = 64 * d := rfl
  omega
theorem rev_map {As st : List Value} : (As.reverse ++ st).map (cv w) = (As.map (cv w)).reverse ++ st.map (cv w) := by rw [List.map_append, List.map_reverse]
theorem cat_map {st : List Value} (hw : (st.map fun v => v.category).sum ≤ 8) : ((st.map (cv w)).map fun v => v.category).sum ≤ 8 := by
  have : (st.map (cv w)).map (fun v => v.category) = st.map fun v => v.category := by
    rw [List.map_map]
    exact List.map_congr_left (fun v _ => cv_cat v)
  rw [this]
  exact hw
theorem r_call0 (X : CX w κ (d + 1) own cc nL rt Φ) {idx n np : Nat} {b : Nat} {As : List Value} {c s : Nat} {Q : Option Value → hp_T → Prop} {x : mt_T} (hln : L.length = nL) (dc : decode cc pc = .ok (.invokevirtual idx, 3)) (f : tc own idx n 0 np) (hm : mt_at n x)
    (hrec : ∀ (H : Heap) (locs : List Loc), Rp w h H → va_S (w_A w) (k_s κ).heap H locs → ∃ (a : Nat) (cell : Cell), cv w (.ref b) = .ref a ∧ H[a]? = some cell ∧ cell.vm.isStatics = false ∧ (k_s κ).vm.findClass x.1.cls = some cell.cls)
    (hn : As.length = np) (he : Ex d n (.ref b :: As) h c s Q) (hc : h_n h + c ≤ (k_1 κ).1 ∧ h_s h + s ≤ (k_1 κ).2) (hw : (st.map fun v => v.category).sum ≤ 8) (kk : ∀ (v : Option Value) (h1 : hp_T), Q v h1 → h1.1 = (h_n h + c, h_s h + s) → GG w κ (pc + 3) L (v.toList ++ st) h1) : GG w κ pc L (As.reverse ++ .ref b :: st) h := by
  intro hg H locs ls hR hS hL
  obtain ⟨q1, q2, q3, hq⟩ := f
  obtain ⟨r, hr1, hr2, hk0, -⟩ := cl_okA _ hq
  obtain ⟨w1, w2, w3⟩ := hk0 rfl
  have hx : r.1 = x := mt_fn ⟨r.2.1, r.2.2, hr1⟩ hm
  rw [hx] at hr2 w1 w2 w3
  obtain ⟨f1, f2, f3, f4, f5, f6⟩ := mt_facts hm
  obtain ⟨a, cell, ea, g1, g2, g3⟩ := hrec H locs hR hS
  have hcap := X.cap
  rw [rev_map, List.map_cons, ea]
  have hpre := call_pre (As := .ref b :: As) X hR hS
  rw [List.map_cons, ea] at hpre
  refine go_call X hR hS hL hg hc (va_runV (As := As.map (cv w)) ⟨X.ex, X.cb, X.ml, X.ow, X.ts⟩ (he κ.2.1 w x hm) (C := x.1.cls) (own := cn own) (n := np)
    ⟨callB_of np X.ts (gd_self f1) rfl rfl rfl (X.ts _ f2) (X.tg w1 rfl) ⟨f5, f6, hr2⟩ (call_fit X hm), X.tg w2 rfl, X.tg w3 rfl⟩ ⟨Pc_blind, ⟨cell, g1, g2, g3⟩, hpre⟩ rfl (by simp [hn]) (hL.1.trans hln) rfl (lv_room (cat_map hw)) dc (by omega)) kk
theorem r_call1 (X : CX w κ (d + 1) own cc nL rt Φ) {idx n np : Nat} {As : List Value} {c s : Nat} {Q : Option Value → hp_T → Prop} {x : mt_T} (hln : L.length = nL) (dc : decode cc pc = .ok (.invokestatic idx, 3)) (f : tc own idx n 1 np) (hm : mt_at n x)
    (hn : As.length = np) (he : Ex d n As h c s Q) (hc : h_n h + c ≤ (k_1 κ).1 ∧ h_s h + s ≤ (k_1 κ).2) (hw : (st.map fun v => v.category).sum ≤ 8) (kk : ∀ (v : Option Value) (h1 : hp_T), Q v h1 → h1.1 = (h_n h + c, h_s h + s) → GG w κ (pc + 3) L (v.toList ++ st) h1) : GG w κ pc L (As.reverse ++ st) h := by
  intro hg H locs ls hR hS hL
  obtain ⟨q1, q2, q3, hq⟩ := f
  obtain ⟨r, hr1, hr2, -, hk1, -⟩ := cl_okA _ hq
  obtain ⟨w1, w2⟩ := hk1 rfl
  have hx : r.1 = x := mt_fn ⟨r.2.1, r.2.2, hr1⟩ hm
  rw [hx] at hr2 w1 w2
  obtain ⟨f1, f2, f3, f4, f5, f6⟩ := mt_facts hm
  have hcap := X.cap
  rw [rev_map]
  refine go_call X hR hS hL hg hc (va_runS (As := As.map (cv w)) ⟨X.ex, X.cb, X.ml, X.ow, X.ts⟩ (he κ.2.1 w x hm) (own := cn own) (n := np)
    ⟨callB_of np X.ts (gd_self f1) rfl rfl rfl (X.ts _ f2) (X.tg w1 rfl) ⟨f5, f6, hr2⟩ (call_fit X hm), X.tg w2 rfl⟩ ⟨Pc_blind, call_pre (As := As) X hR hS⟩ rfl (by simp [hn]) (hL.1.trans hln) rfl (lv_room (cat_map hw)) dc (by omega)) kk
theorem r_call4 (X : CX w κ (d + 1) own cc nL rt Φ) {idx n np : Nat} {As : List Value} {c s : Nat} {Q : Option Value → hp_T → Prop} {x : mt_T} (hln : L.length = nL) (dc : decode cc pc = .ok (.invokestatic idx, 3)) (f : tc own idx n 4 np) (hm : mt_at n x)
    (hn : As.length = np) (he : Ex d n As h c s Q) (hc : h_n h + c ≤ (k_1 κ).1 ∧ h_s h + s ≤ (k_1 κ).2) (hw : (st.map fun v => v.category).sum ≤ 8) (kk : ∀ (v : Option Value) (h1 : hp_T), Q v h1 → h1.1 = (h_n h + c, h_s h + s) → GG w κ (pc + 3) L (v.toList ++ st) h1) : GG w κ pc L (As.reverse ++ st) h := by
  intro hg H locs ls hR hS hL
  obtain ⟨q1, q2, q3, hq⟩ := f
  obtain ⟨r, hr1, hr2, -, -, -, -, hk4⟩ := cl_okA _ hq
  obtain ⟨w1, w2⟩ := hk4 rfl
  have hx : r.1 = x := mt_fn ⟨r.2.1, r.2.2, hr1⟩ hm
  rw [hx] at hr2 w1 w2
  obtain ⟨f1, f2, f3, f4, f5, f6⟩ := mt_facts hm
  have hcap := X.cap
  rw [rev_map]
  refine go_call X hR hS hL hg hc (va_runSN (As := As.map (cv w)) ⟨X.ex, X.cb, X.ml, X.ow, X.ts⟩ (he κ.2.1 w x hm) (own := cn own) (n := np)
    ⟨va_cnB np X.ts (gd_self f1) rfl rfl rfl (X.wd.2.2.2.2.2.2.2.1 _ _ _ _ w1) (X.ts _ f2) ⟨f5, f6, hr2⟩ (call_fit X hm), X.tg w2 rfl, trivial⟩ ⟨Pc_blind, call_pre (As := As) X hR hS⟩ rfl (by simp [hn]) (hL.1.trans hln) rfl (lv_room (cat_map hw)) dc (by omega)) kk
theorem r_call2 (X : CX w κ (d + 1) own cc nL rt Φ) {idx n np b : Nat} {As : List Value} {c s : Nat} {Q : Option Value → hp_T → Prop} {x : mt_T} (hln : L.length = nL) (dc : decode cc pc = .ok (.invokespecial idx, 3)) (f : tc own idx n 2 np) (hm : mt_at n x) (hv : x.2.2.2.1 = none) (hb : 23 ≤ b)
    (hn : As.length = np) (he : Ex d n (.ref b :: As) h c s Q) (hc : h_n h + c ≤ (k_1 κ).1 ∧ h_s h + s ≤ (k_1 κ).2) (hw : (st.map fun v => v.category).sum ≤ 8) (kk : ∀ (v : Option Value) (h1 : hp_T), Q v h1 → h1.1 = (h_n h + c, h_s h + s) → GG w κ (pc + 3) L (v.toList ++ st) h1) : GG w κ pc L (As.reverse ++ .ref b :: st) h := by
  intro hg H locs ls hR hS hL
  obtain ⟨q1, q2, q3, hq⟩ := f
  obtain ⟨r, hr1, hr2, -, -, hk2, -⟩ := cl_okA _ hq
  obtain ⟨w1, w2, w3⟩ := hk2 rfl
  have hx : r.1 = x := mt_fn ⟨r.2.1, r.2.2, hr1⟩ hm
  rw [hx] at hr2 w1 w2 w3
  obtain ⟨f1, f2, f3, f4, f5, f6⟩ := mt_facts hm
  have hcap := X.cap
  have hM := he κ.2.1 w x hm
  rw [hv] at hM f1
  rw [rev_map, List.map_cons, cv_ref hb]
  have hpre := call_pre (As := .ref b :: As) X hR hS
  rw [List.map_cons, cv_ref hb] at hpre
  refine go_call X hR hS hL hg hc (va_runI (As := As.map (cv w)) ⟨X.ex, X.cb, X.ml, X.ow, X.ts⟩ hM (own := cn own) (n := np)
    (cwI np X.ts (gd_self f1) rfl rfl rfl (X.ts _ f2) (X.tg w1 rfl) (X.tg w2 rfl) w3 ⟨f5, f6, hr2⟩ (call_fit X hm)) ⟨Pc_blind, hpre⟩ rfl (by simp [hn]) (hL.1.trans hln) rfl (lv_room (cat_map hw)) dc (by omega)) kk
theorem r_call3 (X : CX w κ (d + 1) own cc nL rt Φ) {idx n np b : Nat} {As : List Value} {c s : Nat} {Q : Option Value → hp_T → Prop} {x : mt_T} (hln : L.length = nL) (dc : decode cc pc = .ok (.invokespecial idx, 3)) (f : tc own idx n 3 np) (hm : mt_at n x) (hv : x.2.2.2.1 = none) (hb : 23 ≤ b)
    (hn : As.length = np) (he : Ex d n (.ref b :: As) h c s Q) (hc : h_n h + c ≤ (k_1 κ).1 ∧ h_s h + s ≤ (k_1 κ).2) (hw : (st.map fun v => v.category).sum ≤ 8) (kk : ∀ (v : Option Value) (h1 : hp_T), Q v h1 → h1.1 = (h_n h + c, h_s h + s) → GG w κ (pc + 3) L (v.toList ++ st) h1) : GG w κ pc L (As.reverse ++ .ref b :: st) h := by
  intro hg H locs ls hR hS hL
  obtain ⟨q1, q2, q3, hq⟩ := f
  obtain ⟨r, hr1, hr2, -, -, -, hk3, -⟩ := cl_okA _ hq
  obtain ⟨w1, w2, w3⟩ := hk3 rfl
  have hx : r.1 = x := mt_fn ⟨r.2.1, r.2.2, hr1⟩ hm
  rw [hx] at hr2 w1 w2 w3
  obtain ⟨f1, f2, f3, f4, f5, f6⟩ := mt_facts hm
  have hcap := X.cap
  have hM := he κ.2.1 w x hm
  rw [hv] at hM f1
  rw [rev_map, List.map_cons, cv_ref hb]
  have hpre := call_pre (As := .ref b :: As) X hR hS
  rw [List.map_cons, cv_ref hb] at hpre
  refine go_call X hR hS hL hg hc (va_runIN (As := As.map (cv w)) ⟨X.ex, X.cb, X.ml, X.ow, X.ts⟩ hM (own := cn own) (n := np)
    ⟨va_cnB np X.ts (gd_self f1) rfl rfl rfl (X.wd.2.2.2.2.2.2.2.1 _ _ _ _ w1) (X.ts _ f2) ⟨f5, f6, hr2⟩ (call_fit X hm), w3, X.tg w2 rfl⟩ ⟨Pc_blind, hpre⟩ rfl (by simp [hn]) (hL.1.trans hln) rfl (lv_room (cat_map hw)) dc (by omega)) kk
-- returns
theorem r_iret (X : CX w κ d own cc nL rt Φ) {t : FieldType} {x : Int32} (dc : decode cc pc = .ok (.ireturn, 1)) (hr : rt = some t) (hn : narrow t (.int x) = .int x) (hp : Φ (some (.int x)) h) : GG w κ pc L [.int x] h :=
  fun hg H locs ls hR hS hL => X.2.2.2.2.2 pc _ _ [.int x] h H locs ls (Or.inr (Or.inl ⟨rfl, t, x, hr, hn, rfl, rfl⟩)) dc hp hg hR hS
theorem r_vret (X : CX w κ d own cc nL rt Φ) (dc : decode cc pc = .ok (.return_, 1)) (hr : rt = none) (hp : Φ none h) : GG w κ pc L [] h :=
  fun hg H locs ls hR hS hL => X.2.2.2.2.2 pc _ _ [] h H locs ls (Or.inl ⟨rfl, hr, rfl, rfl⟩) dc hp hg hR hS
theorem r_lret (X : CX w κ d own cc nL rt Φ) {x : Int64} (dc : decode cc pc = .ok (.lreturn, 1)) (hr : rt = some .long) (hp : Φ (some (.long x)) h) : GG w κ pc L [.long x] h :=
  fun hg H locs ls hR hS hL => X.2.2.2.2.2 pc _ _ [.long x] h H locs ls (Or.inr (Or.inr (Or.inl ⟨rfl, x, hr, rfl, rfl⟩))) dc hp hg hR hS
theorem r_aret (X : CX w κ d own cc nL rt Φ) {t : FieldType} {r : Option Nat} (dc : decode cc pc = .ok (.areturn, 1)) (hr : rt = some t) (ht : ty_r t = true) (hp : Φ (some (va_rf r)) h) (h19 : r ≠ some 19) : GG w κ pc L [va_rf r] h :=
  fun hg H locs ls hR hS hL => X.2.2.2.2.2 pc _ _ [va_rf r] h H locs ls (Or.inr (Or.inr (Or.inr ⟨rfl, t, r, hr, (by cases t <;> first | exact Or.inl ⟨_, rfl⟩ | exact Or.inr ⟨_, rfl⟩ | (cases ht)), rfl, rfl, h19⟩))) dc hp hg hR hS
-- the object's own beginning
theorem r_obj (X : CX w κ (d + 1) own cc nL rt Φ) {idx o : Nat} (hln : L.length = nL) (dc : decode cc pc = .ok (.invokespecial idx, 3)) (hm : Cond.methodLink (cn own) idx Lib.objectInit ∈ lw_tbl) (hw : (st.map fun v => v.category).sum ≤ 8) (ho : 23 ≤ o) (kk : GG w κ (pc + 3) L st h) : GG w κ pc L (.ref o :: st) h := by
  intro hg H locs ls hR hS hL
  rw [List.map_cons, cv_ref ho]
  have h1 := X.fr
  have h2 := lv_room (m := k_m κ) (pc := pc) (ls := ls) (rest := .ref (w.1 + (o - 23)) :: st.map (cv w)) (cat_map (w := w) hw)
  exact W.objInit X.ex X.cb X.ow (X.tg hm rfl) (X.tg to_inst rfl) (X.tg to_code rfl) rfl ((hL.1.trans hln).trans X.ml.symm) rfl dc (by omega) (by omega) (kk hg H locs ls hR hS hL)
-- tables, literals, the script
theorem r_above (X : CX w κ d own cc nL rt Φ) {idx : Nat} (dc : decode cc pc = .ok (.getstatic idx, 3)) (hm : Cond.fieldLink (cn own) idx "LastAtPump" "ABOVE" "[I" ∈ lw_tbl) (kk : GG w κ (pc + 3) L (.ref 1 :: st) h) : GG w κ pc L st h :=
  fun hg H locs ls hR hS hL => va_gets X.ex X.cb X.wd.2.2.2.1.1 hS X.ow (X.tg hm rfl) (fun _ z => z) dc (kk hg H locs ls hR hS hL)
theorem r_bodies (X : CX w κ d own cc nL rt Φ) {idx : Nat} (dc : decode cc pc = .ok (.getstatic idx, 3)) (hm : Cond.fieldLink (cn own) idx "LastAtPump$Acts" "BODIES" "[I" ∈ lw_tbl) (kk : GG w κ (pc + 3) L (.ref 2 :: st) h) : GG w κ pc L st h :=
  fun hg H locs ls hR hS hL => va_gets X.ex X.cb X.wd.2.2.2.2.1.1 hS X.ow (X.tg hm rfl) (fun _ z => z) dc (kk hg H locs ls hR hS hL)
theorem r_compact (X : CX w κ d own cc nL rt Φ) {idx : Nat} (dc : decode cc pc = .ok (.getstatic idx, 3)) (hm : Cond.fieldLink (cn own) idx "java/lang/String" "COMPACT_STRINGS" "Z" ∈ lw_tbl) (kk : GG w κ (pc + 3) L (.int 1 :: st) h) : GG w κ pc L st h :=
  fun hg H locs ls hR hS hL => va_gets X.ex X.cb X.wd.2.2.2.2.2.1.1 hS X.ow (X.tg hm rfl) (fun _ z => z) dc (kk hg H locs ls hR hS hL)
theorem r_sioobe (X : CX w κ d own cc nL rt Φ) {idx : Nat} (dc : decode cc pc = .ok (.getstatic idx, 3)) (hm : Cond.fieldLink (cn own) idx "jdk/internal/util/Preconditions" "SIOOBE_FORMATTER" "Ljava/util/function/BiFunction;" ∈ lw_tbl) (kk : GG w κ (pc + 3) L (.ref 19 :: st) h) : GG w κ pc L st h :=
  fun hg H locs ls hR hS hL => va_gets X.ex X.cb X.wd.2.2.2.2.2.1.2 hS X.ow (X.tg hm rfl) (fun _ z => z) dc (kk hg H locs ls hR hS hL)
theorem r_aboveld (X : CX w κ d own cc nL rt Φ) {j : Nat} {i : Int32} (dc : decode cc pc = .ok (.iaload, 1)) (hi : i = nI j) (hj : j < 7) (kk : GG w κ (pc + 1) L (.int (aboveL.getD j 0) :: st) h) : GG w κ pc L (.int i :: .ref 1 :: st) h := by
  intro hg H locs ls hR hS hL
  obtain ⟨q1, q2⟩ := vin hi hj (by omega)
  exact va_ti X.ex X.cb X.wd.2.2.2.1.2 hS q1 (by rw [q2]; rfl) dc (kk hg H locs ls hR hS hL)
theorem r_bodyld (X : CX w κ d own cc nL rt Φ) {j : Nat} {i : Int32} (dc : decode cc pc = .ok (.iaload, 1)) (hi : i = nI j) (hj : j < 21) (kk : GG w κ (pc + 1) L (.int (bodiesL.getD j 0) :: st) h) : GG w κ pc L (.int i :: .ref 2 :: st) h := by
  intro hg H locs ls hR hS hL
  obtain ⟨q1, q2⟩ := vin hi hj (by omega)
  exact va_ti X.ex X.cb X.wd.2.2.2.2.1.2 hS q1 (by rw [q2]; rfl) dc (kk hg H locs ls hR hS hL)
theorem r_ldcS (X : CX w κ d own cc nL rt Φ) {idx i : Nat} (dc : decode cc pc = .ok (.ldc idx, 2)) (hi : i < 7) (ho : own = sOwn i) (hx : idx = sIdx i) (kk : GG w κ (pc + 2) L (.ref (3 + i) :: st) h) : GG w κ pc L st h := by
  intro hg H locs ls hR hS hL
  have k1 := kk hg H locs ls hR hS hL
  rw [List.map_cons, cv_out (by omega)] at k1
  subst ho
  subst hx
  exact va_ldcS X.ex X.cb X.ow (X.wd.2.2.2.2.2.2.1 i hi).1 dc k1
theorem r_strval (X : CX w κ d own cc nL rt Φ) {idx i : Nat} (dc : decode cc pc = .ok (.getfield idx, 3)) (hi : i < 7) (hm : Cond.fieldLink (cn own) idx "java/lang/String" "value" "[B" ∈ lw_tbl) (kk : GG w κ (pc + 3) L (.ref (10 + i) :: st) h) : GG w κ pc L (.ref (3 + i) :: st) h := by
  intro hg H locs ls hR hS hL
  have k1 := kk hg H locs ls hR hS hL
  rw [List.map_cons, cv_out (by omega)] at k1
  rw [List.map_cons, cv_out (by omega)]
  exact vk_getf X.ex X.cb (X.wd.2.2.2.2.2.2.1 i hi).2.2.2.1 hS X.ow (X.tg hm rfl) (fun _ z => z) dc k1
theorem r_strcoder (X : CX w κ d own cc nL rt Φ) {idx i : Nat} (dc : decode cc pc = .ok (.getfield idx, 3)) (hi : i < 7) (hm : Cond.fieldLink (cn own) idx "java/lang/String" "coder" "B" ∈ lw_tbl) (kk : GG w κ (pc + 3) L (.int 0 :: st) h) : GG w κ pc L (.ref (3 + i) :: st) h := by
  intro hg H locs ls hR hS hL
  have k1 := kk hg H locs ls hR hS hL
  rw [List.map_cons, cv_out (by omega)]
  exact vk_getf X.ex X.cb (X.wd.2.2.2.2.2.2.1 i hi).2.2.1 hS X.ow (X.tg hm rfl) (fun _ z => z) dc k1
theorem r_strlen (X : CX w κ d own cc nL rt Φ) {i : Nat} (dc : decode cc pc = .ok (.arraylength, 1)) (hi : i < 7) (kk : GG w κ (pc + 1) L (.int (nI (sBy i).length) :: st) h) : GG w κ pc L (.ref (10 + i) :: st) h := by
  intro hg H locs ls hR hS hL
  have k1 := kk hg H locs ls hR hS hL
  rw [List.map_cons, cv_out (by omega)]
  exact va_tlen X.ex X.cb (X.wd.2.2.2.2.2.2.1 i hi).2.2.2.2 hS rfl dc k1
theorem r_strld (X : CX w κ d own cc nL rt Φ) {i j : Nat} {z : Int32} (dc : decode cc pc = .ok (.baload, 1)) (hi : i < 7) (hz : z = nI j) (hj : j < (sBy i).length) (hn : (sBy i).length < 2 ^ 31) (kk : GG w κ (pc + 1) L (.int ((sBy i).getD j 0) :: st) h) : GG w κ pc L (.int z :: .ref (10 + i) :: st) h := by
  intro hg H locs ls hR hS hL
  obtain ⟨q1, q2⟩ := vin hz hj hn
  have k1 := kk hg H locs ls hR hS hL
  rw [List.map_cons, List.map_cons, cv_out (by omega)]
  exact va_tb X.ex X.cb (X.wd.2.2.2.2.2.2.1 i hi).2.2.2.2 hS q1 (by rw [q2]; rfl) dc k1
theorem str_recv (X : CX w κ d own cc nL rt Φ) {i : Nat} (hi : i < 7) : ∀ (H : Heap) (locs : List Loc), Rp w h H → va_S (w_A w) (k_s κ).heap H locs → ∃ (a : Nat) (cell : Cell), cv w (.ref (3 + i)) = .ref a ∧ H[a]? = some cell ∧ cell.vm.isStatics = false ∧ (k_s κ).vm.findClass "java/lang/String" = some cell.cls := by
  intro H locs hR hS
  obtain ⟨cell, h1, h2, h3, -⟩ := (X.wd.2.2.2.2.2.2.1 i hi).2.1.kept hS.2.1
  exact ⟨_, cell, cv_out (by omega), h1, h2, h3⟩
theorem obj_recv (X : CX w κ d own cc nL rt Φ) {o ci : Nat} {C : String} {r : vw_C} (hs : ck h o 0 ci) (hc : vwCl[ci]? = some r) (hC : r.1 = C) : ∀ (H : Heap) (locs : List Loc), Rp w h H → va_S (w_A w) (k_s κ).heap H locs → ∃ (a : Nat) (cell : Cell), cv w (.ref o) = .ref a ∧ H[a]? = some cell ∧ cell.vm.isStatics = false ∧ (k_s κ).vm.findClass C = some cell.cls := by
  intro H locs hR hS
  obtain ⟨cell, h1, h2, h3⟩ := va_recv X.K hR.1 hc (ws_getK hs)
  subst hC
  exact ⟨_, cell, cv_ref hs.2.1, h1, h2, h3⟩
theorem r_sld (X : CX w κ d own cc nL rt Φ) {j : Nat} {i : Int32} (dc : decode cc pc = .ok (.iaload, 1)) (hi : i = nI j) (hj : j < w.2.2.2.2.2.1) (hn : w.2.2.2.2.2.1 < 2 ^ 31) (kk : GG w κ (pc + 1) L (.int (w.2.2.2.2.2.2 j) :: st) h) : GG w κ pc L (.int i :: .ref 0 :: st) h := by
  intro hg H locs ls hR hS hL
  obtain ⟨q1, q2⟩ := vin hi hj hn
  have k1 := kk hg H locs ls hR hS hL
  have h3 := X.wd.2.2.1
  refine va_sld X.ex X.cb X.wd.2.1 h3.1 (by unfold w_A; omega) hS q1 dc ?_
  rw [q2]
  exact k1
theorem r_slen (X : CX w κ d own cc nL rt Φ) (dc : decode cc pc = .ok (.arraylength, 1)) (kk : GG w κ (pc + 1) L (.int (nI w.2.2.2.2.2.1) :: st) h) : GG w κ pc L (.ref 0 :: st) h := by
  intro hg H locs ls hR hS hL
  have h3 := X.wd.2.2.1
  have hb : ¬ w_A w (w.2.1 0) := by unfold w_A; omega
  exact va_slen X.ex X.cb X.wd.2.1 h3.1 hb hS dc (kk hg H locs ls hR hS hL)
-- Math
theorem math_fit (X : CX w κ (d + 1) own cc nL rt Φ) {s2 : List Value} (hw : (s2.map fun v => v.category).sum ≤ 8) (hg : (k_0 κ).1 ≤ h_n h ∧ h_n h ≤ (k_1 κ).1 ∧ (k_0 κ).2 ≤ h_s h ∧ h_s h ≤ (k_1 κ).2) : 1 ≤ (k_R κ).frames ∧ ((s2.map (cv w)).map fun v => v.category).sum + 13 ≤ (k_R κ).locals ∧ h_n h - (k_0 κ).1 ≤ (k_R κ).cells ∧ h_s h - (k_0 κ).2 ≤ (k_R κ).slots := by
  have h1 := X.fr
  have h2 := X.cap
  have h3 := cat_map (w := w) hw
  omega
theorem r_max (X : CX w κ (d + 1) own cc nL rt Φ) {idx : Nat} {x y : Int32} (hln : L.length = nL) (dc : decode cc pc = .ok (.invokestatic idx, 3)) (hm : Cond.methodLink (cn own) idx Lib.Math.max.name ∈ lw_tbl) (hw : (st.map fun v => v.category).sum ≤ 8) (kk : GG w κ (pc + 3) L (.int (if x < y then y else x) :: st) h) : GG w κ pc L (.int y :: .int x :: st) h := by
  intro hg H locs ls hR hS hL
  obtain ⟨f1, f2, f3, f4⟩ := math_fit X hw hg
  exact va_mmax X.ex X.cb (X.ml.trans (hL.1.trans hln).symm) X.ow (X.tg hm rfl) (X.tg tx_s_max rfl) (X.tg tx_i rfl) (X.tg tx_c_max rfl) f1 f2 f3 f4 dc (kk hg H locs ls hR hS hL)
theorem r_min (X : CX w κ (d + 1) own cc nL rt Φ) {idx : Nat} {x y : Int32} (hln : L.length = nL) (dc : decode cc pc = .ok (.invokestatic idx, 3)) (hm : Cond.methodLink (cn own) idx Lib.Math.min.name ∈ lw_tbl) (hw : (st.map fun v => v.category).sum ≤ 8) (kk : GG w κ (pc + 3) L (.int (if y < x then y else x) :: st) h) : GG w κ pc L (.int y :: .int x :: st) h := by
  intro hg H locs ls hR hS hL
  obtain ⟨f1, f2, f3, f4⟩ := math_fit X hw hg
  exact va_mmin X.ex X.cb (X.ml.trans (hL.1.trans hln).symm) X.ow (X.tg hm rfl) (X.tg tx_s_min rfl) (X.tg tx_i rfl) (X.tg tx_c_min rfl) f1 f2 f3 f4 dc (kk hg H locs ls hR hS hL)
theorem r_abs (X : CX w κ (d + 1) own cc nL rt Φ) {idx : Nat} {x : Int32} (hln : L.length = nL) (dc : decode cc pc = .ok (.invokestatic idx, 3)) (hm : Cond.methodLink (cn own) idx Lib.Math.abs.name ∈ lw_tbl) (hw : (st.map fun v => v.category).sum ≤ 8) (kk : GG w κ (pc + 3) L (.int (if 0 ≤ x then x else 0 - x) :: st) h) : GG w κ pc L (.int x :: st) h := by
  intro hg H locs ls hR hS hL
  obtain ⟨f1, f2, f3, f4⟩ := math_fit X hw hg
  exact va_mabs X.ex X.cb (X.ml.trans (hL.1.trans hln).symm) X.ow (X.tg hm rfl) (X.tg tx_s_abs rfl) (X.tg tx_i rfl) (X.tg tx_c_abs rfl) f1 f2 f3 f4 dc (kk hg H locs ls hR hS hL)
-- copies
theorem r_copyi (X : CX w κ (d + 1) own cc nL rt Φ) {idx a b n0 n1 i j k : Nat} {zi zj zk : Int32} (hln : L.length = nL) (dc : decode cc pc = .ok (.invokestatic idx, 3)) (hm : Cond.methodLink (cn own) idx arraycopyName ∈ lw_tbl) (ha : ck h a 1 n0) (hb : ck h b 1 n1) (hi : zi = nI i) (hj : zj = nI j) (hk : zk = nI k) (h0 : i + k ≤ n0 ∧ n0 < 2 ^ 31) (h1 : j + k ≤ n1 ∧ n1 < 2 ^ 31) (hw : (st.map fun v => v.category).sum ≤ 8) (kk : GG w κ (pc + 3) L st (sI h b (va_cpy (h_i h a) (h_i h b) i j k))) : GG w κ pc L (.int zk :: .int zj :: .ref b :: .int zi :: .ref a :: st) h := by
  intro hg H locs ls hR hS hL
  have e1 := X.fr
  have e3 := cat_map (w := w) hw
  have e4 : nativeFrameWords "java/lang/System" "arraycopy" 5 + 11 ≤ 50 := by decide +kernel
  subst hi
  subst hj
  subst hk
  have ci : (nI i).toNatClampNeg = i := nI_clamp (by omega)
  have cj : (nI j).toNatClampNeg = j := nI_clamp (by omega)
  have ck : (nI k).toNatClampNeg = k := nI_clamp (by omega)
  rw [List.map_cons, List.map_cons, List.map_cons, List.map_cons, List.map_cons, cv_ref ha.2.1, cv_ref hb.2.1]
  refine va_copyi X.ex X.cb (X.ml.trans (hL.1.trans hln).symm) X.ow (X.tg hm rfl) (X.tg ta_nat_arraycopy rfl) (X.tg tq_stat rfl) (X.tg tq_ini rfl) X.K hR.1 ws_D (vS_self hS) (a - 23) (b - 23) 0 0 (ws_getK ha) (ws_getK hb) rfl rfl rfl (nI_pos (by omega)) (nI_pos (by omega)) (nI_pos (by omega)) (by rw [ci, ck]; exact h0.1) (by rw [cj, ck]; exact h1.1) (fun _ _ => rfl) (by omega) (by omega) dc (fun H1 locs1 hP hD hS1 => ?_)
  rw [ci, cj, ck] at hP
  rw [ws_set (h' := sI h b (va_cpy (h_i h a) (h_i h b) i j k)) hb.2.1 hb.2.2 rfl (fun q hq => cellA_sI hq) (by rw [cellA, show h_k (sI h b (va_cpy (h_i h a) (h_i h b) i j k)) b = (1, n1) from hb.1]; simp [cellE, h_i, sI])] at hP
  exact GG.after (h1 := sI h b (va_cpy (h_i h a) (h_i h b) i j k)) X hR hS hL hg rfl hP hS1 kk
theorem r_copyl (X : CX w κ (d + 1) own cc nL rt Φ) {idx a b n0 n1 i j k : Nat} {zi zj zk : Int32} (hln : L.length = nL) (dc : decode cc pc = .ok (.invokestatic idx, 3)) (hm : Cond.methodLink (cn own) idx arraycopyName ∈ lw_tbl) (ha : ck h a 4 n0) (hb : ck h b 4 n1) (hi : zi = nI i) (hj : zj = nI j) (hk : zk = nI k) (h0 : i + k ≤ n0 ∧ n0 < 2 ^ 31) (h1 : j + k ≤ n1 ∧ n1 < 2 ^ 31) (hw : (st.map fun v => v.category).sum ≤ 8) (kk : GG w κ (pc + 3) L st (sL h b (va_cpy (h_l h a) (h_l h b) i j k))) : GG w κ pc L (.int zk :: .int zj :: .ref b :: .int zi :: .ref a :: st) h := by
  intro hg H locs ls hR hS hL
  have e1 := X.fr
  have e3 := cat_map (w := w) hw
  have e4 : nativeFrameWords "java/lang/System" "arraycopy" 5 + 11 ≤ 50 := by decide +kernel
  subst hi
  subst hj
  subst hk
  have ci : (nI i).toNatClampNeg = i := nI_clamp (by omega)
  have cj : (nI j).toNatClampNeg = j := nI_clamp (by omega)
  have ck : (nI k).toNatClampNeg = k := nI_clamp (by omega)
  rw [List.map_cons, List.map_cons, List.map_cons, List.map_cons, List.map_cons, cv_ref ha.2.1, cv_ref hb.2.1]
  refine va_copyl X.ex X.cb (X.ml.trans (hL.1.trans hln).symm) X.ow (X.tg hm rfl) (X.tg ta_nat_arraycopy rfl) (X.tg tq_stat rfl) (X.tg tq_ini rfl) X.K hR.1 ws_D (vS_self hS) (a - 23) (b - 23) 3 3 (ws_getK ha) (ws_getK hb) rfl rfl rfl (nI_pos (by omega)) (nI_pos (by omega)) (nI_pos (by omega)) (by rw [ci, ck]; exact h0.1) (by rw [cj, ck]; exact h1.1) (fun _ _ => rfl) (by omega) (by omega) dc (fun H1 locs1 hP hD hS1 => ?_)
  rw [ci, cj, ck] at hP
  rw [ws_set (h' := sL h b (va_cpy (h_l h a) (h_l h b) i j k)) hb.2.1 hb.2.2 rfl (fun q hq => cellA_sL hq) (by rw [cellA, show h_k (sL h b (va_cpy (h_l h a) (h_l h b) i j k)) b = (4, n1) from hb.1]; simp [cellE, h_l, sL])] at hP
  exact GG.after (h1 := sL h b (va_cpy (h_l h a) (h_l h b) i j k)) X hR hS hL hg rfl hP hS1 kk
-- a row's clone, and its cast back
theorem cls_int (X : CX w κ d own cc nL rt Φ) : (k_s κ).vm.findClass "[I" = some (w.2.2.2.2.1 1) := (X.K.2 0 _ rfl).2
def cloneC (h : hp_T) (a n : Nat) : hp_T := sI (nC h 1 n n) (h_n h) (h_i h a)
theorem r_clone (X : CX w κ (d + 1) own cc nL rt Φ) {idx a n : Nat} (hln : L.length = nL) (dc : decode cc pc = .ok (.invokevirtual idx, 3)) (hm : Cond.methodLink (cn own) idx ⟨"[I", "clone", "()Ljava/lang/Object;"⟩ ∈ lw_tbl) (ha : ck h a 1 n) (hc : h_n h + 1 ≤ (k_1 κ).1 ∧ h_s h + n ≤ (k_1 κ).2) (hw : (st.map fun v => v.category).sum ≤ 8) (kk : GG w κ (pc + 3) L (.ref (h_n h) :: st) (cloneC h a n)) : GG w κ pc L (.ref a :: st) h := by
  intro hg H locs ls hR hS hL
  have e1 := X.fr
  have e2 := X.cap
  have e3 := cat_map (w := w) hw
  have hA : ∀ q : Nat, H.size ≤ q → w_A w q := fun q hq => by
    have : H.size = _ := hR.2.1
    unfold w_A
    omega
  rw [List.map_cons, cv_ref ha.2.1]
  refine va_clone X.ex X.cb (X.ml.trans (hL.1.trans hln).symm) X.ow (X.tg hm rfl) (X.tg ta_same rfl) (X.tg ta_nat_clone rfl) (X.tg tcl_inst rfl) (X.tg tcl_sel rfl) X.wd.2.2.2.2.2.2.2.2.1 X.K hR.1 ws_D (vS_self hS) hA (a - 23) 0 (ws_getK ha) rfl (cls_int X) (fun i v hv => ?_) (by omega) (by omega) (by omega) (by show _ + n ≤ _; omega) dc (fun q H1 hK hP hD hS1 => ?_)
  · have hlt : i < n := by
      have := (Array.getElem?_eq_some_iff.mp hv).1
      rw [show (vp_cell (w.2.2.2.2.1 1) (n, Sum.inl (h_i h a))).slots.size = n from arrV_size _ _ _] at this
      exact this
    have e : (vp_cell (w.2.2.2.2.1 1) (n, Sum.inl (h_i h a))).slots[i]? = some (.int (h_i h a i)) := arrV_read _ _ hlt
    rw [e] at hv
    cases hv
    rfl
  · refine GG.made (h1 := cloneC h a n) X hR hS hL hg hc rfl (fun b hb => ?_) ?_ hP hD hS1 kk
    · rw [cloneC, cellA_sI (Nat.ne_of_lt hb), cellA_nC hb]
    · simp only [cloneC, cellA, h_k, h_i, h_l, h_r, nC, sI, h_n, if_true]
      rfl
theorem r_castI (X : CX w κ d own cc nL rt Φ) {idx a n : Nat} (dc : decode cc pc = .ok (.checkcast idx, 3)) (hm : Cond.classLink (cn own) idx "[I" ∈ lw_tbl) (ha : ck h a 1 n) (kk : GG w κ (pc + 3) L (.ref a :: st) h) : GG w κ pc L (.ref a :: st) h := by
  intro hg H locs ls hR hS hL
  have k1 := kk hg H locs ls hR hS hL
  rw [List.map_cons, cv_ref ha.2.1] at k1
  rw [List.map_cons, cv_ref ha.2.1]
  exact va_castA X.ex X.cb X.ow (X.tg hm rfl) hR.1 (a - 23) (ws_getK ha) (cls_int X) dc k1
end RC
/-- a contract out of a walk of the body -/
theorem Ex.of {d n : Nat} {args : List Value} {h : hp_T} {c0 s0 : Nat} {Q : Option Value → hp_T → Prop} {y : MethodName} {cc : ByteArray} {nL own : Nat} {rt : Option FieldType} (hm : mt_at n (y, cc, nL, rt, own)) (hlen : (lay args).length ≤ nL)
    (body : ∀ (w : wc_T) (κ : cx_T), CX w κ d own cc nL rt (fun v2 h2 => Q v2 h2 ∧ h2.1 = (h_n h + c0, h_s h + s0)) → k_1 κ = (h_n h + c0, h_s h + s0) → (k_t κ).name = y.name → GG w κ 0 (pad (lay args) nL) [] h) : Ex d n args h c0 s0 Q := by
  intro l w x hx
  cases mt_fn hm hx
  obtain ⟨f1, f2, f3, f4, f5, f6⟩ := mt_facts hm
  refine Met.ofW (cc := cc) (maxL := nL) (ret := rt) f3 rfl ?_
  intro p e s m args' below meth c s₁ B hml hv
  obtain ⟨rfl, hR, hWd, hbase⟩ := hv
  have hts := atoms_spec (ws := Cond.code y cc nL rt :: gd_W) B.pre
  have hown : s.vm.findClass y.cls = some m.cls := findClass_of_methodNamed B.named
  have hlocks := B.notSynchronized
  have hnm : meth.name = y.name := (name_of_methodNamed B.named B.method).1
  have hsz : s.heap.size = _ := hR.2.1
  have h20 := hR.2.2
  let κ : cx_T := (p, l, e, rm_ d c0 s0, s, m, (args.map (cv w)).toArray, below, meth, c, MQ below (Qc_ w (h_n h + c0, h_s h + s0) Q) (args.map (cv w)).toArray s c0 s0 (w_A w), (h_n h, h_s h), (h_n h + c0, h_s h + s0))
  have X : CX w κ d own cc nL rt (fun v2 h2 => Q v2 h2 ∧ h2.1 = (h_n h + c0, h_s h + s0)) := by
    refine ⟨⟨B.exec, B.bytes, hml, B.returns, hlocks⟩, ⟨fun z hz => hts z (List.mem_cons_of_mem _ hz), ?_, hWd, hbase⟩, ⟨Nat.le_refl _, Nat.le_refl _⟩, ⟨Nat.le_refl _, Nat.le_refl _⟩, ⟨hsz, h20⟩, ?_⟩
    · have e9 : y.cls = cn own := f4
      rw [← e9]
      exact hown
    · intro pc i v2 vs h2 H locs ls hro dc hΦ hg hR2 hS2
      obtain ⟨hQ, hn⟩ := hΦ
      have hf : ∀ q ∈ locs, w_A w q.base := hS2.2.2
      have hF : ∀ t : State, t.heap = H → va_F (w_A w) s t := fun t ht => va_S.F hS2 ht
      have n1 : h_n h2 = h_n h + c0 := congrArg Prod.fst hn
      have n2 : h_s h2 = h_s h + s0 := congrArg Prod.snd hn
      show W p l e (rm_ d c0 s0) s m (args.map (cv w)).toArray below meth c H locs (h_n h2 - h_n h) (h_s h2 - h_s h) (MQ below (Qc_ w (h_n h + c0, h_s h + s0) Q) (args.map (cv w)).toArray s c0 s0 (w_A w)) (F0 m pc ls (vs.map (cv w)))
      rw [show h_n h2 - h_n h = c0 by omega, show h_s h2 - h_s h = s0 by omega]
      rcases hro with ⟨rfl, hrt, rfl, rfl⟩ | ⟨rfl, t, x, hrt, hnn, rfl, rfl⟩ | ⟨rfl, x, hrt, rfl, rfl⟩ | ⟨rfl, t, r, hrt, ht, rfl, rfl, h19⟩
      · exact W.vret B.exec B.bytes (B.returns.trans hrt) (fun t ht hW => ⟨_, _, hQ, hn, rfl, by rw [ht]; exact hR2, hF t ht⟩) hf dc hlocks
      · exact W.zret B.exec B.bytes (B.returns.trans hrt) hnn (fun t ht hW => ⟨_, _, hQ, hn, rfl, by rw [ht]; exact hR2, hF t ht⟩) hf dc hlocks
      · exact W.lret B.exec B.bytes (B.returns.trans hrt) (fun t ht hW => ⟨_, _, hQ, hn, rfl, by rw [ht]; exact hR2, hF t ht⟩) hf dc hlocks
      · have e9 : cv w (va_rf r) = .null ∨ ∃ a, cv w (va_rf r) = .ref a := by
          cases r with
          | none => exact Or.inl rfl
          | some a => exact (cv_refs w a).symm
        exact W.aret B.exec B.bytes (B.returns.trans hrt) ht e9 (fun t ht hW => ⟨_, _, hQ, hn, rfl, by rw [ht]; exact hR2, hF t ht⟩) hf dc hlocks
  have k1 := body w κ X rfl hnm
  rw [lg_entry_eq]
  have k2 := k1 ⟨Nat.le_refl _, Nat.le_add_right _ _, Nat.le_refl _, Nat.le_add_right _ _⟩ s.heap [] _ hR va_S.rf (LR_entry (w := w) (vs := args) (n := nL) hlen)
  have k3 : W p l e (rm_ d c0 s0) s m (args.map (cv w)).toArray below meth c s.heap [] (h_n h - h_n h) (h_s h - h_s h) (MQ below (Qc_ w (h_n h + c0, h_s h + s0) Q) (args.map (cv w)).toArray s c0 s0 (w_A w)) (F0 m 0 (lg_sl (args.map (cv w)) ++ List.replicate (nL - (lg_sl (args.map (cv w))).length) Slot.unset).toArray []) := k2
  rw [Nat.sub_self, Nat.sub_self] at k3
  exact k3

