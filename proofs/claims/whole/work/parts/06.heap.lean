/-! ROWS OF THE HEAP: fields, arrays, what is made -/
theorem vS_self {A : Nat → Prop} {H0 H : Heap} {locs : List Loc} (h : va_S A H0 H locs) : va_S A H H locs := ⟨Nat.le_refl _, fun _ _ _ => rfl, h.2.2⟩
theorem vS_tr {A : Nat → Prop} {H0 H H1 : Heap} {locs locs1 : List Loc} (a : va_S A H0 H locs) (b : va_S A H H1 locs1) : va_S A H0 H1 locs1 := ⟨Nat.le_trans a.1 b.1, fun q h1 h2 => (b.2.1 q (Nat.lt_of_lt_of_le h1 a.1) h2).trans (a.2.1 q h1 h2), b.2.2⟩
section RH
variable {w : wc_T} {κ : cx_T} {d own nL : Nat} {cc : ByteArray} {rt : Option FieldType} {Φ : Option Value → hp_T → Prop} {pc : Nat} {L : List (Option Value)} {st : List Value} {h : hp_T}
theorem Wk.sz {H : Heap} {locs : List Loc} {g : JFrame} (k : H.size ≤ (k_s κ).heap.size + (h_n h - (k_0 κ).1) → Wk κ h H locs g) : Wk κ h H locs g := fun T hT X => k (by rw [← hT]; exact X.heapSize) T hT X
def ff (ci k : Nat) : Bool := match vwCl[ci]? with
  | some r => (r.2.1 k).2.2.2
  | none => false
def fd (ci k : Nat) : String := match vwCl[ci]? with
  | some r => (r.2.1 k).1
  | none => ""
theorem r_geti (X : CX w κ d own cc nL rt Φ) {idx ci k o : Nat} (dc : decode cc pc = .ok (.getfield idx, 3)) (f : tf own idx ci k) (ht : ty_i (tt ci k) = true) (hs : ck h o 0 ci) {x : Int32} (hx : h_i h o k = x) (kk : GG w κ (pc + 3) L (.int x :: st) h) : GG w κ pc L (.ref o :: st) h := by
  intro hg H locs ls hR hS hL
  obtain ⟨r, hr, hk, hm⟩ := tf_ok f
  obtain ⟨-, -, c3, c4⟩ := cf_all hr
  rw [List.map_cons, cv_ref hs.2.1]
  refine va_get (C := r.1) (T := r.2.1) (N := r.2.2) X.ex X.cb X.ts c3 X.ow X.K hR.1 (o - 23) (ws_getK hs) hr k hk (X.ts _ hm) (fun _ z => z) (v := .int x) ?_ dc (kk hg H locs ls hR hS hL)
  rw [List.getElem?_map, List.getElem?_range (show k < nf (0, ci).2 from c4 ▸ hk)]
  subst hx
  show some (cv w (fa (tt ci k) _ _ _)) = _
  revert ht
  cases tt ci k <;> intro ht <;> first | rfl | cases ht
theorem r_getr (X : CX w κ d own cc nL rt Φ) {idx ci k o t : Nat} (dc : decode cc pc = .ok (.getfield idx, 3)) (f : tf own idx ci k) (ht : ty_r (tt ci k) = true) (hs : ck h o 0 ci) (hx : h_r h o k = some t) (kk : GG w κ (pc + 3) L (.ref t :: st) h) : GG w κ pc L (.ref o :: st) h := by
  intro hg H locs ls hR hS hL
  obtain ⟨r, hr, hk, hm⟩ := tf_ok f
  obtain ⟨-, -, c3, c4⟩ := cf_all hr
  rw [List.map_cons, cv_ref hs.2.1]
  refine va_get (C := r.1) (T := r.2.1) (N := r.2.2) X.ex X.cb X.ts c3 X.ow X.K hR.1 (o - 23) (ws_getK hs) hr k hk (X.ts _ hm) (fun _ z => z) (v := cv w (.ref t)) ?_ dc (kk hg H locs ls hR hS hL)
  rw [List.getElem?_map, List.getElem?_range (show k < nf (0, ci).2 from c4 ▸ hk)]
  show some (cv w (fa (tt ci k) _ _ (h_r h o k))) = _
  rw [hx]
  revert ht
  cases tt ci k <;> intro ht <;> first | rfl | cases ht
theorem r_getn (X : CX w κ d own cc nL rt Φ) {idx ci k o : Nat} (dc : decode cc pc = .ok (.getfield idx, 3)) (f : tf own idx ci k) (ht : ty_r (tt ci k) = true) (hs : ck h o 0 ci) (hx : h_r h o k = none) (kk : GG w κ (pc + 3) L (.null :: st) h) : GG w κ pc L (.ref o :: st) h := by
  intro hg H locs ls hR hS hL
  obtain ⟨r, hr, hk, hm⟩ := tf_ok f
  obtain ⟨-, -, c3, c4⟩ := cf_all hr
  rw [List.map_cons, cv_ref hs.2.1]
  refine va_get (C := r.1) (T := r.2.1) (N := r.2.2) X.ex X.cb X.ts c3 X.ow X.K hR.1 (o - 23) (ws_getK hs) hr k hk (X.ts _ hm) (fun _ z => z) (v := .null) ?_ dc (kk hg H locs ls hR hS hL)
  rw [List.getElem?_map, List.getElem?_range (show k < nf (0, ci).2 from c4 ▸ hk)]
  show some (cv w (fa (tt ci k) _ _ (h_r h o k))) = _
  rw [hx]
  revert ht
  cases tt ci k <;> intro ht <;> first | rfl | cases ht
/-- a store's end: the numbers behind it -/
theorem GG.after {h1 : hp_T} {H H1 : Heap} {locs locs1 : List Loc} {ls : Array Slot} {pc1 : Nat} {st1 : List Value} (X : CX w κ d own cc nL rt Φ) (hR : Rp w h H) (hS : va_S (w_A w) (k_s κ).heap H locs) (hL : LR w ls L) (hg : (k_0 κ).1 ≤ h_n h ∧ h_n h ≤ (k_1 κ).1 ∧ (k_0 κ).2 ≤ h_s h ∧ h_s h ≤ (k_1 κ).2)
    (he : h1.1 = h.1) (hP : va_P w.2.2.2.1 vwCl (wsA w h1) H1) (hS1 : va_S (w_A w) H H1 locs1) (kk : GG w κ pc1 L st1 h1) : Wk κ h H1 locs1 (F0 (k_m κ) pc1 ls (st1.map (cv w))) := by
  have e1 : h_n h1 = h_n h := by show h1.1.1 = h.1.1; rw [he]
  have e2 : h_s h1 = h_s h := by show h1.1.2 = h.1.2; rw [he]
  have hsz := X.sz
  have h1' : H.size = _ := hR.2.1
  have h2' := hR.2.2
  refine Wk.sz fun hz => ?_
  have h3' := hS1.1
  have k1 := kk (by rw [e1, e2]; exact hg) H1 locs1 ls ⟨hP, by rw [e1]; omega, by rw [e1]; exact h2'⟩ (vS_tr hS hS1) hL
  show W _ _ _ _ _ _ _ _ _ _ _ _ (h_n h - (k_0 κ).1) (h_s h - (k_0 κ).2) _ _
  rw [← e1, ← e2]
  exact k1
theorem put_core (X : CX w κ d own cc nL rt Φ) {idx ci k o : Nat} {v : Value} {h1 : hp_T} (dc : decode cc pc = .ok (.putfield idx, 3)) (f : tf own idx ci k) (hs : ck h o 0 ci) (hfin : ff ci k = false ∨ (ff ci k = true ∧ (k_t κ).name = "<init>" ∧ fd ci k = cn own)) (hn : narrow (tt ci k) (cv w v) = cv w v) (hf : fits (tt ci k) (cv w v) = true)
    (he : h1.1 = h.1) (ho : ∀ b, b ≠ o → cellA w h1 b = cellA w h b) (hc : ((List.range (nf ci)).map (fun j => cv w (fa (tt ci j) (h_i h o j) (h_l h o j) (h_r h o j)))).set k (cv w v) = (List.range (nf ci)).map (fun j => cv w (fa (tt ci j) (h_i h1 o j) (h_l h1 o j) (h_r h1 o j)))) (hk1 : h_k h1 o = (0, ci)) (kk : GG w κ (pc + 3) L st h1) : GG w κ pc L (v :: .ref o :: st) h := by
  intro hg H locs ls hR hS hL
  obtain ⟨r, hr, hk, hm⟩ := tf_ok f
  obtain ⟨c1, c2, c3, c4⟩ := cf_all hr
  rw [List.map_cons, List.map_cons, cv_ref hs.2.1]
  have e1 : h_n h1 = h_n h := by show h1.1.1 = h.1.1; rw [he]
  have hset : (wsA w h).set (o - 23) (w.1 + (o - 23), .inr (ci, ((List.range (nf ci)).map (fun j => cv w (fa (tt ci j) (h_i h o j) (h_l h o j) (h_r h o j)))).set k (cv w v))) = wsA w h1 :=
    ws_set hs.2.1 hs.2.2 e1 ho (by rw [cellA, hk1, hc]; rfl)
  have hfin' : (r.2.1 k).2.2.2 = ff ci k := by simp only [ff, hr]
  have hfd : (r.2.1 k).1 = fd ci k := by simp only [fd, hr]
  have hlen : k < ((List.range (nf ci)).map (fun j => cv w (fa (tt ci j) (h_i h o j) (h_l h o j) (h_r h o j)))).length := by simp; omega
  rcases hfin with g | ⟨g1, g2, g3⟩
  · refine va_put (C := r.1) (T := r.2.1) (N := r.2.2) X.ex X.cb X.ts c3 (tt ci) c1 c2 X.ow X.K hR.1 ws_D (vS_self hS) (o - 23) (ws_getK hs) hr k hk (X.ts _ hm) (fun _ z => z) (hfin'.trans g) (c1 k hk) hn hf hlen dc (fun H1 locs1 hP hD hS1 => ?_)
    rw [hset] at hP
    exact GG.after X hR hS hL hg he hP hS1 kk
  · refine va_putF (C := r.1) (T := r.2.1) (N := r.2.2) X.ex X.cb X.ts c3 (tt ci) c1 c2 X.ow X.K hR.1 ws_D (vS_self hS) (o - 23) (ws_getK hs) hr k hk (X.ts _ hm) (fun _ z => z) (hfin'.trans g1) g2 (hfd.trans g3) (c1 k hk) hn hf hlen dc (fun H1 locs1 hP hD hS1 => ?_)
    rw [hset] at hP
    exact GG.after X hR hS hL hg he hP hS1 kk
theorem set_range {α : Type} {n k : Nat} (hk : k < n) {f g : Nat → α} {v : α} (h1 : g k = v) (h2 : ∀ j, j ≠ k → g j = f j) : ((List.range n).map f).set k v = (List.range n).map g := by
  apply List.ext_getElem?
  intro i
  rw [List.getElem?_set]
  by_cases hi : k = i
  · subst hi
    rw [if_pos rfl, if_pos (by simp; exact hk), List.getElem?_map, List.getElem?_range hk]
    simp [h1]
  · rw [if_neg hi, List.getElem?_map, List.getElem?_map]
    by_cases hl : i < n
    · rw [List.getElem?_range hl]
      simp [h2 i (Ne.symm hi)]
    · rw [List.getElem?_eq_none (by simp; omega)]
      rfl
theorem cellA_sI {a b : Nat} {f : Nat → Int32} (hb : b ≠ a) : cellA w (sI h a f) b = cellA w h b := by
  simp only [cellA, h_k, h_i, h_l, h_r, sI, if_neg hb]
theorem cellA_sL {a b : Nat} {f : Nat → Int64} (hb : b ≠ a) : cellA w (sL h a f) b = cellA w h b := by
  simp only [cellA, h_k, h_i, h_l, h_r, sL, if_neg hb]
theorem cellA_sR {a b : Nat} {f : Nat → Option Nat} (hb : b ≠ a) : cellA w (sR h a f) b = cellA w h b := by
  simp only [cellA, h_k, h_i, h_l, h_r, sR, if_neg hb]
theorem fa_i {t : FieldType} (ht : ty_i t = true) (x : Int32) (y : Int64) (r : Option Nat) : fa t x y r = .int x := by
  cases t <;> first | rfl | cases ht
theorem fa_r {t : FieldType} (ht : ty_r t = true) (x : Int32) (y : Int64) (r : Option Nat) : fa t x y r = va_rf r := by
  cases t <;> first | rfl | cases ht
theorem tf_lt {idx ci k : Nat} (f : tf own idx ci k) : k < nf ci := by
  obtain ⟨r, hr, hk, -⟩ := tf_ok f
  rw [← (cf_all hr).2.2.2]
  exact hk
theorem r_puti (X : CX w κ d own cc nL rt Φ) {idx ci k o : Nat} {x : Int32} (dc : decode cc pc = .ok (.putfield idx, 3)) (f : tf own idx ci k) (ht : ty_i (tt ci k) = true) (hfin : ff ci k = false ∨ (ff ci k = true ∧ (k_t κ).name = "<init>" ∧ fd ci k = cn own)) (hs : ck h o 0 ci) (hn : narrow (tt ci k) (.int x) = .int x ∧ fits (tt ci k) (.int x) = true) (kk : GG w κ (pc + 3) L st (sI h o (upd (h_i h o) k x))) : GG w κ pc L (.int x :: .ref o :: st) h := by
  refine put_core (h1 := sI h o (upd (h_i h o) k x)) X dc f hs hfin hn.1 hn.2 rfl (fun b hb => cellA_sI hb) (set_range (tf_lt f) ?_ (fun j hj => ?_)) hs.1 kk
  · rw [fa_i ht]
    simp [h_i, sI, upd, cv]
  · have e : h_i (sI h o (upd (h_i h o) k x)) o j = h_i h o j := by simp [h_i, sI, upd, hj]
    rw [e]
    rfl
theorem r_putr (X : CX w κ d own cc nL rt Φ) {idx ci k o : Nat} {r : Option Nat} (dc : decode cc pc = .ok (.putfield idx, 3)) (f : tf own idx ci k) (ht : ty_r (tt ci k) = true) (hfin : ff ci k = false ∨ (ff ci k = true ∧ (k_t κ).name = "<init>" ∧ fd ci k = cn own)) (hs : ck h o 0 ci) (kk : GG w κ (pc + 3) L st (sR h o (va_up (h_r h o) k r))) : GG w κ pc L (va_rf r :: .ref o :: st) h := by
  have hv : cv w (va_rf r) = .null ∨ ∃ a, cv w (va_rf r) = .ref a := by
    cases r with
    | none => exact Or.inl rfl
    | some a => exact (cv_refs w a).symm
  refine put_core (h1 := sR h o (va_up (h_r h o) k r)) X dc f hs hfin ?_ ?_ rfl (fun b hb => cellA_sR hb) (set_range (tf_lt f) ?_ (fun j hj => ?_)) hs.1 kk
  · revert ht
    rcases hv with e | ⟨a, e⟩ <;> rw [e] <;> cases tt ci k <;> intro ht <;> first | rfl | cases ht
  · revert ht
    rcases hv with e | ⟨a, e⟩ <;> rw [e] <;> cases tt ci k <;> intro ht <;> first | rfl | cases ht
  · rw [fa_r ht]
    simp [h_r, sR, va_up]
  · have e : h_r (sR h o (va_up (h_r h o) k r)) o j = h_r h o j := by simp [h_r, sR, va_up, hj]
    rw [e]
    rfl
-- arrays
theorem vin {j n : Nat} {i : Int32} (hi : i = nI j) (hj : j < n) (hn : n < 2 ^ 31) : vp_in i n ∧ i.toNatClampNeg = j := by
  subst hi
  exact ⟨vp_in_nI hj hn, nI_clamp (by omega)⟩
theorem r_iald (X : CX w κ d own cc nL rt Φ) {a n j : Nat} {i : Int32} (dc : decode cc pc = .ok (.iaload, 1)) (hs : ck h a 1 n) (hi : i = nI j) (hj : j < n) (hn : n < 2 ^ 31) {x : Int32} (hx : h_i h a j = x) (kk : GG w κ (pc + 1) L (.int x :: st) h) : GG w κ pc L (.int i :: .ref a :: st) h := by
  intro hg H locs ls hR hS hL
  obtain ⟨q1, q2⟩ := vin hi hj hn
  have k1 := kk hg H locs ls hR hS hL
  rw [List.map_cons, List.map_cons, cv_ref hs.2.1]
  refine va_iald X.ex X.cb X.K hR.1 (a - 23) 0 (ws_getK hs) rfl q1 dc ?_
  rw [q2, hx]
  exact k1
theorem r_bald (X : CX w κ d own cc nL rt Φ) {a n j : Nat} {i : Int32} (dc : decode cc pc = .ok (.baload, 1)) (hs : ck h a 2 n) (hi : i = nI j) (hj : j < n) (hn : n < 2 ^ 31) {x : Int32} (hx : h_i h a j = x) (kk : GG w κ (pc + 1) L (.int x :: st) h) : GG w κ pc L (.int i :: .ref a :: st) h := by
  intro hg H locs ls hR hS hL
  obtain ⟨q1, q2⟩ := vin hi hj hn
  have k1 := kk hg H locs ls hR hS hL
  rw [List.map_cons, List.map_cons, cv_ref hs.2.1]
  refine va_bald X.ex X.cb X.K hR.1 (a - 23) 1 (ws_getK hs) rfl q1 dc ?_
  rw [q2, hx]
  exact k1
theorem r_zald (X : CX w κ d own cc nL rt Φ) {a n j : Nat} {i : Int32} (dc : decode cc pc = .ok (.baload, 1)) (hs : ck h a 3 n) (hi : i = nI j) (hj : j < n) (hn : n < 2 ^ 31) {x : Int32} (hx : h_i h a j = x) (kk : GG w κ (pc + 1) L (.int x :: st) h) : GG w κ pc L (.int i :: .ref a :: st) h := by
  intro hg H locs ls hR hS hL
  obtain ⟨q1, q2⟩ := vin hi hj hn
  have k1 := kk hg H locs ls hR hS hL
  rw [List.map_cons, List.map_cons, cv_ref hs.2.1]
  refine va_zald X.ex X.cb X.K hR.1 (a - 23) 2 (ws_getK hs) rfl q1 dc ?_
  rw [q2, hx]
  exact k1
theorem r_lald (X : CX w κ d own cc nL rt Φ) {a n j : Nat} {i : Int32} (dc : decode cc pc = .ok (.laload, 1)) (hs : ck h a 4 n) (hi : i = nI j) (hj : j < n) (hn : n < 2 ^ 31) {x : Int64} (hx : h_l h a j = x) (kk : GG w κ (pc + 1) L (.long x :: st) h) : GG w κ pc L (.int i :: .ref a :: st) h := by
  intro hg H locs ls hR hS hL
  obtain ⟨q1, q2⟩ := vin hi hj hn
  have k1 := kk hg H locs ls hR hS hL
  rw [List.map_cons, List.map_cons, cv_ref hs.2.1]
  refine va_lald X.ex X.cb X.K hR.1 (a - 23) 3 (ws_getK hs) rfl q1 dc ?_
  rw [q2, hx]
  exact k1
theorem r_alen (X : CX w κ d own cc nL rt Φ) {a t n : Nat} {v : Int32} (dc : decode cc pc = .ok (.arraylength, 1)) (hs : ck h a t n) (ht : 1 ≤ t ∧ t ≤ 4) (hv : nI n = v) (kk : GG w κ (pc + 1) L (.int v :: st) h) : GG w κ pc L (.ref a :: st) h := by
  intro hg H locs ls hR hS hL
  have k1 := kk hg H locs ls hR hS hL
  rw [List.map_cons, cv_ref hs.2.1]
  have g := ws_getK (w := w) hs
  rcases (show t = 1 ∨ t = 2 ∨ t = 3 ∨ t = 4 by omega) with rfl | rfl | rfl | rfl
  · exact va_alen X.ex X.cb X.K hR.1 (a - 23) 0 g rfl hv dc k1
  · exact va_alen X.ex X.cb X.K hR.1 (a - 23) 1 g rfl hv dc k1
  · exact va_alen X.ex X.cb X.K hR.1 (a - 23) 2 g rfl hv dc k1
  · exact va_alen X.ex X.cb X.K hR.1 (a - 23) 3 g rfl hv dc k1
theorem r_aald (X : CX w κ d own cc nL rt Φ) {a n j t : Nat} {i : Int32} (dc : decode cc pc = .ok (.aaload, 1)) (hs : ck h a 5 n) (hi : i = nI j) (hj : j < n) (hn : n < 2 ^ 31) (hx : h_r h a j = some t) (ht : 23 ≤ t) (kk : GG w κ (pc + 1) L (.ref t :: st) h) : GG w κ pc L (.int i :: .ref a :: st) h := by
  intro hg H locs ls hR hS hL
  obtain ⟨q1, q2⟩ := vin hi hj hn
  have k1 := kk hg H locs ls hR hS hL
  rw [List.map_cons, cv_ref ht] at k1
  rw [List.map_cons, List.map_cons, cv_ref hs.2.1]
  have ha := ws_getK (w := w) hs
  refine W.aald (v := .ref (w.1 + (t - 23))) (ty := .array .long) X.ex X.cb (hR.1 (a - 23) _ ha) ((X.K.2 4 _ rfl).1 n (fun j => va_rf ((h_r h a j).map (w_ad w)))) rfl (fun q => by cases q) (by show ¬ (i < 0 ∨ (arrV _ _ _).slots.size ≤ _); rw [arrV_size]; exact q1) ?_ rfl rfl dc k1
  show (arrV _ n (fun j => va_rf ((h_r h a j).map (w_ad w)))).slots[i.toNatClampNeg]? = _
  rw [q2, arrV_read _ _ hj]
  show some (va_rf ((h_r h a j).map (w_ad w))) = _
  rw [hx]
  simp only [Option.map, va_rf, w_ad, if_neg (show ¬ t < 23 by omega)]
theorem r_iast (X : CX w κ d own cc nL rt Φ) {a n j : Nat} {i : Int32} {x : Int32} (dc : decode cc pc = .ok (.iastore, 1)) (hs : ck h a 1 n) (hi : i = nI j) (hj : j < n) (hn : n < 2 ^ 31) (kk : GG w κ (pc + 1) L st (sI h a (upd (h_i h a) j x))) : GG w κ pc L (.int x :: .int i :: .ref a :: st) h := by
  intro hg H locs ls hR hS hL
  obtain ⟨q1, q2⟩ := vin hi hj hn
  rw [List.map_cons, List.map_cons, List.map_cons, cv_ref hs.2.1]
  refine va_iast X.ex X.cb X.K hR.1 ws_D (vS_self hS) (a - 23) 0 (ws_getK hs) rfl q1 dc (fun H1 locs1 hP hD hS1 => ?_)
  rw [q2] at hP
  rw [ws_set (h' := sI h a (upd (h_i h a) j x)) hs.2.1 hs.2.2 rfl (fun b hb => cellA_sI hb) (by rw [cellA, show h_k (sI h a (upd (h_i h a) j x)) a = (1, n) from hs.1]; simp [cellE, h_i, sI])] at hP
  exact GG.after (h1 := sI h a (upd (h_i h a) j x)) X hR hS hL hg rfl hP hS1 kk
theorem r_last (X : CX w κ d own cc nL rt Φ) {a n j : Nat} {i : Int32} {x : Int64} (dc : decode cc pc = .ok (.lastore, 1)) (hs : ck h a 4 n) (hi : i = nI j) (hj : j < n) (hn : n < 2 ^ 31) (kk : GG w κ (pc + 1) L st (sL h a (vp_updL (h_l h a) j x))) : GG w κ pc L (.long x :: .int i :: .ref a :: st) h := by
  intro hg H locs ls hR hS hL
  obtain ⟨q1, q2⟩ := vin hi hj hn
  rw [List.map_cons, List.map_cons, List.map_cons, cv_ref hs.2.1]
  refine va_last X.ex X.cb X.K hR.1 ws_D (vS_self hS) (a - 23) 3 (ws_getK hs) rfl q1 dc (fun H1 locs1 hP hD hS1 => ?_)
  rw [q2] at hP
  rw [ws_set (h' := sL h a (vp_updL (h_l h a) j x)) hs.2.1 hs.2.2 rfl (fun b hb => cellA_sL hb) (by rw [cellA, show h_k (sL h a (vp_updL (h_l h a) j x)) a = (4, n) from hs.1]; simp [cellE, h_l, sL])] at hP
  exact GG.after (h1 := sL h a (vp_updL (h_l h a) j x)) X hR hS hL hg rfl hP hS1 kk
theorem r_bast (X : CX w κ d own cc nL rt Φ) {a n j : Nat} {i : Int32} {x : Int32} (dc : decode cc pc = .ok (.bastore, 1)) (hs : ck h a 2 n) (hi : i = nI j) (hj : j < n) (hn : n < 2 ^ 31) (hv : vp_nar .byte x = x) (kk : GG w κ (pc + 1) L st (sI h a (upd (h_i h a) j x))) : GG w κ pc L (.int x :: .int i :: .ref a :: st) h := by
  intro hg H locs ls hR hS hL
  obtain ⟨q1, q2⟩ := vin hi hj hn
  rw [List.map_cons, List.map_cons, List.map_cons, cv_ref hs.2.1]
  refine va_bast X.ex X.cb X.K hR.1 ws_D (vS_self hS) (a - 23) 1 (ws_getK hs) rfl q1 dc (fun H1 locs1 hP hD hS1 => ?_)
  rw [q2, hv] at hP
  rw [ws_set (h' := sI h a (upd (h_i h a) j x)) hs.2.1 hs.2.2 rfl (fun b hb => cellA_sI hb) (by rw [cellA, show h_k (sI h a (upd (h_i h a) j x)) a = (2, n) from hs.1]; simp [cellE, h_i, sI])] at hP
  exact GG.after (h1 := sI h a (upd (h_i h a) j x)) X hR hS hL hg rfl hP hS1 kk
theorem r_zast (X : CX w κ d own cc nL rt Φ) {a n j : Nat} {i : Int32} {x : Int32} (dc : decode cc pc = .ok (.bastore, 1)) (hs : ck h a 3 n) (hi : i = nI j) (hj : j < n) (hn : n < 2 ^ 31) (hv : vp_nar .boolean x = x) (kk : GG w κ (pc + 1) L st (sI h a (upd (h_i h a) j x))) : GG w κ pc L (.int x :: .int i :: .ref a :: st) h := by
  intro hg H locs ls hR hS hL
  obtain ⟨q1, q2⟩ := vin hi hj hn
  rw [List.map_cons, List.map_cons, List.map_cons, cv_ref hs.2.1]
  refine va_zast X.ex X.cb X.K hR.1 ws_D (vS_self hS) (a - 23) 2 (ws_getK hs) rfl q1 dc (fun H1 locs1 hP hD hS1 => ?_)
  rw [q2, hv] at hP
  rw [ws_set (h' := sI h a (upd (h_i h a) j x)) hs.2.1 hs.2.2 rfl (fun b hb => cellA_sI hb) (by rw [cellA, show h_k (sI h a (upd (h_i h a) j x)) a = (3, n) from hs.1]; simp [cellE, h_i, sI])] at hP
  exact GG.after (h1 := sI h a (upd (h_i h a) j x)) X hR hS hL hg rfl hP hS1 kk
-- what is made
theorem GG.made {h1 : hp_T} {H H1 : Heap} {locs : List Loc} {ls : Array Slot} {pc1 q len : Nat} {st1 : List Value} {e : va_E} (X : CX w κ d own cc nL rt Φ) (hR : Rp w h H) (hS : va_S (w_A w) (k_s κ).heap H locs) (hL : LR w ls L) (hg : (k_0 κ).1 ≤ h_n h ∧ h_n h ≤ (k_1 κ).1 ∧ (k_0 κ).2 ≤ h_s h ∧ h_s h ≤ (k_1 κ).2)
    (hc : h_n h + 1 ≤ (k_1 κ).1 ∧ h_s h + len ≤ (k_1 κ).2) (he : h1.1 = (h_n h + 1, h_s h + len)) (ho : ∀ b, b < h_n h → cellA w h1 b = cellA w h b) (hn : e = cellA w h1 (h_n h)) (hP : va_P w.2.2.2.1 vwCl (wsA w h ++ [(q, e)]) H1) (hD : va_D (w_A w) (wsA w h ++ [(q, e)])) (hS1 : va_S (w_A w) H H1 locs) (kk : GG w κ pc1 L (.ref (h_n h) :: st1) h1) :
    W κ.1 κ.2.1 κ.2.2.1 (k_R κ) (k_s κ) (k_m κ) (k_a κ) (k_b κ) (k_t κ) (k_c κ) H1 locs (h_n h - (k_0 κ).1 + 1) (h_s h - (k_0 κ).2 + len) (k_Q κ) (F0 (k_m κ) pc1 ls (.ref q :: st1.map (cv w))) := by
  have e1 : h_n h1 = h_n h + 1 := by show h1.1.1 = _; rw [he]
  have e2 : h_s h1 = h_s h + len := by show h1.1.2 = _; rw [he]
  have hsz := X.sz
  have h1' : H.size = _ := hR.2.1
  have h2' := hR.2.2
  rw [show h_n h - (k_0 κ).1 + 1 = h_n h1 - (k_0 κ).1 by omega, show h_s h - (k_0 κ).2 + len = h_s h1 - (k_0 κ).2 by omega]
  refine Wk.sz fun hz => ?_
  have h3' := hS1.1
  have hlast : (wsA w h ++ [(q, e)])[h_n h - 23]? = some (q, e) := by
    rw [List.getElem?_append_right (by rw [ws_len]; exact Nat.le_refl _), ws_len, Nat.sub_self]
    rfl
  have hq1 : q < H1.size := (hP _ _ hlast).lt
  have hq2 : w.1 ≤ q := hD.2 _ _ hlast
  have hq : q = w.1 + (h_n h - 23) := by
    by_cases hx : q < w.1 + (h_n h - 23)
    · exfalso
      have g := ws_get (w := w) (h := h) (a := 23 + (q - w.1)) (by omega) (by omega)
      have hl2 : (23 + (q - w.1)) - 23 < (wsA w h).length := by rw [ws_len]; omega
      have g2 : (wsA w h ++ [(q, e)])[23 + (q - w.1) - 23]? = some (w.1 + (23 + (q - w.1) - 23), cellA w h (23 + (q - w.1))) := by
        rw [List.getElem?_append_left hl2]
        exact g
      have := hD.1 _ _ _ _ g2 hlast (by show w.1 + (23 + (q - w.1) - 23) = q; omega)
      omega
    · omega
  subst hq
  rw [ws_push h2' e1 ho hn] at hP
  have k1 := kk (by rw [e1, e2]; omega) H1 locs ls ⟨hP, by rw [e1]; omega, by omega⟩ (vS_tr hS hS1) hL
  rw [List.map_cons, cv_ref h2'] at k1
  exact k1
theorem cellA_nC {b t n len : Nat} (hb : b < h_n h) : cellA w (nC h t n len) b = cellA w h b := by
  have : ¬ b = h.1.1 := Nat.ne_of_lt hb
  simp only [cellA, h_k, h_i, h_l, h_r, nC, if_neg this]
theorem r_new (X : CX w κ d own cc nL rt Φ) {idx ci : Nat} (dc : decode cc pc = .ok (.new idx, 3)) (f : tn own idx ci) (hc : h_n h + 1 ≤ (k_1 κ).1 ∧ h_s h + nf ci ≤ (k_1 κ).2) (hd : ∀ j, j < nf ci → defaultValue (tt ci j) = fa (tt ci j) 0 0 none) (kk : GG w κ (pc + 3) L (.ref (h_n h) :: st) (nC h 0 ci (nf ci))) : GG w κ pc L st h := by
  intro hg H locs ls hR hS hL
  obtain ⟨r, hr, hm1, hm2, hm3⟩ := f
  obtain ⟨c1, c2, c3, c4⟩ := cf_all hr
  have hcap := X.cap
  have hA : ∀ q : Nat, H.size ≤ q → w_A w q := fun q hq => by
    have : H.size = _ := hR.2.1
    unfold w_A
    omega
  refine va_new (C := r.1) (T := r.2.1) (N := r.2.2) (fs := (List.range (nf ci)).map (fun j => cv w (fa (tt ci j) 0 0 none))) X.ex X.cb X.ts c3 (tt ci) c1 X.ow (X.tg hm1 rfl) (X.tg hm2 rfl) (X.tg hm3 rfl) X.K hR.1 ws_D (vS_self hS) hA hr (fun j hj => ?_) (by omega) (by omega) dc (fun q H1 hP hD hS1 => ?_)
  · rw [hd j (by omega)]
    unfold vp_V
    rw [List.getD_eq_getElem?_getD, List.getElem?_map, List.getElem?_range (by omega)]
    show _ = cv w _
    cases tt ci j <;> rfl
  · rw [c4]
    refine GG.made (h1 := nC h 0 ci (nf ci)) X hR hS hL hg hc rfl (fun b hb => cellA_nC hb) ?_ hP hD hS1 kk
    simp only [cellA, h_k, h_i, h_l, h_r, nC, h_n, if_true]
    rfl
theorem r_newa1 (X : CX w κ d own cc nL rt Φ) {n : Nat} {i : Int32} (dc : decode cc pc = .ok (.newarray .int, 2)) (hi : i = nI n) (hn : n < 65536) (hc : h_n h + 1 ≤ (k_1 κ).1 ∧ h_s h + n ≤ (k_1 κ).2) (kk : GG w κ (pc + 2) L (.ref (h_n h) :: st) (nC h 1 n n)) : GG w κ pc L (.int i :: st) h := by
  intro hg H locs ls hR hS hL
  have hcap := X.cap
  have hA : ∀ q : Nat, H.size ≤ q → w_A w q := fun q hq => by
    have : H.size = _ := hR.2.1
    unfold w_A
    omega
  subst hi
  rw [List.map_cons]
  refine va_newa (atype := .int) (ty := .int) (a0 := (n, .inl (fun _ => 0))) X.ex X.cb (X.tg ta_int rfl) rfl X.K hR.1 ws_D (vS_self hS) hA (fun cA => rfl) (nI_pos (by omega)) (nI_clamp (by omega)) (by show n * _ ≤ _; simp only [componentBytes]; omega) (by omega) (by omega) dc (fun q cA H1 hK hP hD hS1 => ?_)
  have ec : cA = w.2.2.2.2.1 1 := by
    have a1 : va_RA (k_s κ) cA .int := (hK.2 5 (cA, .int) rfl).2
    have a2 : va_RA (k_s κ) (w.2.2.2.2.1 1) .int := (X.K.2 0 _ rfl).2
    exact Option.some.inj (a1.symm.trans a2)
  subst ec
  refine GG.made (h1 := nC h 1 n n) X hR hS hL hg hc rfl (fun b hb => cellA_nC hb) ?_ hP hD hS1 kk
  simp only [cellA, h_k, h_i, h_l, h_r, nC, h_n, if_true]
  rfl
theorem r_newa2 (X : CX w κ d own cc nL rt Φ) {n : Nat} {i : Int32} (dc : decode cc pc = .ok (.newarray .byte, 2)) (hi : i = nI n) (hn : n < 65536) (hc : h_n h + 1 ≤ (k_1 κ).1 ∧ h_s h + n ≤ (k_1 κ).2) (kk : GG w κ (pc + 2) L (.ref (h_n h) :: st) (nC h 2 n n)) : GG w κ pc L (.int i :: st) h := by
  intro hg H locs ls hR hS hL
  have hcap := X.cap
  have hA : ∀ q : Nat, H.size ≤ q → w_A w q := fun q hq => by
    have : H.size = _ := hR.2.1
    unfold w_A
    omega
  subst hi
  rw [List.map_cons]
  refine va_newa (atype := .byte) (ty := .byte) (a0 := (n, .inl (fun _ => 0))) X.ex X.cb (X.tg ta_byte rfl) rfl X.K hR.1 ws_D (vS_self hS) hA (fun cA => rfl) (nI_pos (by omega)) (nI_clamp (by omega)) (by show n * _ ≤ _; simp only [componentBytes]; omega) (by omega) (by omega) dc (fun q cA H1 hK hP hD hS1 => ?_)
  have ec : cA = w.2.2.2.2.1 2 := by
    have a1 : va_RA (k_s κ) cA .byte := (hK.2 5 (cA, .byte) rfl).2
    have a2 : va_RA (k_s κ) (w.2.2.2.2.1 2) .byte := (X.K.2 1 _ rfl).2
    exact Option.some.inj (a1.symm.trans a2)
  subst ec
  refine GG.made (h1 := nC h 2 n n) X hR hS hL hg hc rfl (fun b hb => cellA_nC hb) ?_ hP hD hS1 kk
  simp only [cellA, h_k, h_i, h_l, h_r, nC, h_n, if_true]
  rfl
theorem r_newa3 (X : CX w κ d own cc nL rt Φ) {n : Nat} {i : Int32} (dc : decode cc pc = .ok (.newarray .boolean, 2)) (hi : i = nI n) (hn : n < 65536) (hc : h_n h + 1 ≤ (k_1 κ).1 ∧ h_s h + n ≤ (k_1 κ).2) (kk : GG w κ (pc + 2) L (.ref (h_n h) :: st) (nC h 3 n n)) : GG w κ pc L (.int i :: st) h := by
  intro hg H locs ls hR hS hL
  have hcap := X.cap
  have hA : ∀ q : Nat, H.size ≤ q → w_A w q := fun q hq => by
    have : H.size = _ := hR.2.1
    unfold w_A
    omega
  subst hi
  rw [List.map_cons]
  refine va_newa (atype := .boolean) (ty := .boolean) (a0 := (n, .inl (fun _ => 0))) X.ex X.cb (X.tg ta_boolean rfl) rfl X.K hR.1 ws_D (vS_self hS) hA (fun cA => rfl) (nI_pos (by omega)) (nI_clamp (by omega)) (by show n * _ ≤ _; simp only [componentBytes]; omega) (by omega) (by omega) dc (fun q cA H1 hK hP hD hS1 => ?_)
  have ec : cA = w.2.2.2.2.1 3 := by
    have a1 : va_RA (k_s κ) cA .boolean := (hK.2 5 (cA, .boolean) rfl).2
    have a2 : va_RA (k_s κ) (w.2.2.2.2.1 3) .boolean := (X.K.2 2 _ rfl).2
    exact Option.some.inj (a1.symm.trans a2)
  subst ec
  refine GG.made (h1 := nC h 3 n n) X hR hS hL hg hc rfl (fun b hb => cellA_nC hb) ?_ hP hD hS1 kk
  simp only [cellA, h_k, h_i, h_l, h_r, nC, h_n, if_true]
  rfl
theorem r_newa4 (X : CX w κ d own cc nL rt Φ) {n : Nat} {i : Int32} (dc : decode cc pc = .ok (.newarray .long, 2)) (hi : i = nI n) (hn : n < 65536) (hc : h_n h + 1 ≤ (k_1 κ).1 ∧ h_s h + n ≤ (k_1 κ).2) (kk : GG w κ (pc + 2) L (.ref (h_n h) :: st) (nC h 4 n n)) : GG w κ pc L (.int i :: st) h := by
  intro hg H locs ls hR hS hL
  have hcap := X.cap
  have hA : ∀ q : Nat, H.size ≤ q → w_A w q := fun q hq => by
    have : H.size = _ := hR.2.1
    unfold w_A
    omega
  subst hi
  rw [List.map_cons]
  refine va_newa (atype := .long) (ty := .long) (a0 := (n, .inr (.inl (fun _ => 0)))) X.ex X.cb (X.tg ta_long rfl) rfl X.K hR.1 ws_D (vS_self hS) hA (fun cA => rfl) (nI_pos (by omega)) (nI_clamp (by omega)) (by show n * _ ≤ _; simp only [componentBytes]; omega) (by omega) (by omega) dc (fun q cA H1 hK hP hD hS1 => ?_)
  have ec : cA = w.2.2.2.2.1 4 := by
    have a1 : va_RA (k_s κ) cA .long := (hK.2 5 (cA, .long) rfl).2
    have a2 : va_RA (k_s κ) (w.2.2.2.2.1 4) .long := (X.K.2 3 _ rfl).2
    exact Option.some.inj (a1.symm.trans a2)
  subst ec
  refine GG.made (h1 := nC h 4 n n) X hR hS hL hg hc rfl (fun b hb => cellA_nC hb) ?_ hP hD hS1 kk
  simp only [cellA, h_k, h_i, h_l, h_r, nC, h_n, if_true]
  rfl
end RH
