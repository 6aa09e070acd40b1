/-! six rows of sixty longs, made at once -/
def mN (h : hp_T) : hp_T := ((h.1.1 + 7, h.1.2 + 366), (fun b => if b = h.1.1 then (5, 6) else if h.1.1 < b ∧ b < h.1.1 + 7 then (4, 60) else h.2.1 b), (fun b => if h.1.1 ≤ b ∧ b < h.1.1 + 7 then (fun _ => 0) else h.2.2.1 b), (fun b => if h.1.1 ≤ b ∧ b < h.1.1 + 7 then (fun _ => 0) else h.2.2.2.1 b), fun b => if b = h.1.1 then (fun j => if j < 6 then some (h.1.1 + 1 + j) else none) else if h.1.1 ≤ b ∧ b < h.1.1 + 7 then (fun _ => none) else h.2.2.2.2 b)
theorem outer_arr {c : ClassId} {N h0 : Nat} : ∀ i : Nat, Jvm.Free.Multi.outerC c N h0 i = arrV c N (fun j => if j < i then .ref (h0 + 1 + j) else .null) := by
  intro i
  induction i with
  | zero =>
    show ({ cls := c, slots := Array.replicate N .null, vm := .none } : Cell) = _
    rw [arrV_new]
    congr 1
  | succ i ih =>
    show (Jvm.Free.Multi.outerC c N h0 i).setSlot i (.ref (h0 + 1 + i)) = _
    rw [ih, arrV_store]
    congr 1
    funext j
    show (if j = i then Value.ref (h0 + 1 + i) else if j < i then Value.ref (h0 + 1 + j) else Value.null) = if j < i + 1 then Value.ref (h0 + 1 + j) else Value.null
    by_cases e : j = i
    · subst e
      rw [if_pos rfl, if_pos (Nat.lt_succ_self _)]
    · rw [if_neg e]
      by_cases e2 : j < i
      · rw [if_pos e2, if_pos (by omega)]
      · rw [if_neg e2, if_neg (by omega)]
theorem js_1 : "[" ++ (FieldType.array .long).toString = "[[J" := by first | rfl | decide | decide +kernel
section RW67
variable {w : wc_T} {κ : cx_T} {d own nL : Nat} {cc : ByteArray} {rt : Option FieldType} {Φ : Option Value → hp_T → Prop} {pc : Nat} {L : List (Option Value)} {st : List Value} {h : hp_T}
set_option maxHeartbeats 4000000 in
theorem r_mnew (X : CX w κ d own cc nL rt Φ) {idx : Nat} (dc : decode cc pc = .ok (.multianewarray idx 2, 4)) (hm : Cond.classLink (cn own) idx "[[J" ∈ lw_tbl) (hc : h_n h + 7 ≤ (k_1 κ).1 ∧ h_s h + 366 ≤ (k_1 κ).2) (kk : GG w κ (pc + 4) L (.ref (h_n h) :: st) (mN h)) : GG w κ pc L (.int (nI 60) :: .int (nI 6) :: st) h := by
  intro hg H locs ls hR hS hL T hT XT
  have hcap := X.cap
  have hsz := X.sz
  have hH : H.size = w.1 + (h_n h - 23) := hR.2.1
  have h20 := hR.2.2
  have hl : (Cond.classLink (cn own) idx ("[" ++ (FieldType.array .long).toString)).before (k_a κ) (k_s κ) = true := by
    rw [js_1]
    exact X.tg hm rfl
  have e6 : (nI 6).toNatClampNeg = 6 := by decide
  have e60 : (nI 60).toNatClampNeg = 60 := by decide
  obtain ⟨vm₁, cA, comp, hW1, hfA, hfC, -, -, X1, step⟩ := Jvm.Stand.multianewarray2F XT X.ex (own := cn own) (index := idx) (ty := .long) X.ow hl (ov_same rfl X.wd.2.2.2.2.2.2.2.2.2) (X.tg ta_long rfl)
    (g := F0 (k_m κ) pc ls (.int (nI 60) :: .int (nI 6) :: st.map (cv w))) rfl (by show decode (k_c κ).code pc = _; rw [X.cb]; exact dc) (n := nI 6) (k := nI 60) (rest := st.map (cv w)) rfl (by decide) (by decide) (by decide) (by decide) (by decide) rfl rfl (by rw [e6]; omega) (by rw [e6, e60]; omega)
  rw [e6, e60] at X1 step
  obtain ⟨f1, f2, f3, f4⟩ := Jvm.Free.Multi.fill_facts (T.setVm vm₁) cA comp 6 60 (defaultValue .long) 6
  have fo := fun (a : Addr) (ha : a < (T.setVm vm₁).heap.size) => Jvm.Free.Multi.fill_old (T.setVm vm₁) cA comp 6 60 (defaultValue .long) ha 6
  have fi := Jvm.Free.Multi.fill_inner (T.setVm vm₁) cA comp 6 60 (defaultValue .long) 6
  have hT2 : (T.setVm vm₁).heap = H := hT
  rw [hT2] at f1 f2 fo fi
  generalize Jvm.Free.Multi.fill (T.setVm vm₁) cA comp 6 60 (defaultValue .long) 6 = T1 at X1 step f1 f2 f3 f4 fo fi
  have ec : comp = w.2.2.2.2.1 4 := by
    have a2 : va_RA (k_s κ) (w.2.2.2.2.1 4) .long := (X.K.2 3 _ rfl).2
    exact Option.some.inj (hfC.symm.trans a2)
  have eA : cA = w.2.2.2.2.1 5 := by
    have a2 : va_RA (k_s κ) (w.2.2.2.2.1 5) (.array .long) := (X.K.2 4 _ rfl).2
    exact Option.some.inj (hfA.symm.trans a2)
  subst ec
  subst eA
  have hP : va_P w.2.2.2.1 vwCl (wsA w (mN h)) T1.heap := by
    intro k q hk
    have hk1 : k < h_n h + 7 - 23 := by
      have a1 := (List.getElem?_eq_some_iff.mp hk).1
      rw [ws_len] at a1
      exact a1
    have e := ws_get (w := w) (h := mN h) (a := 23 + k) (by omega) (by show _ < h_n h + 7; omega)
    rw [show 23 + k - 23 = k by omega, hk] at e
    cases e
    by_cases c1 : 23 + k < h_n h
    · have n1 : ¬ 23 + k = h.1.1 := Nat.ne_of_lt c1
      have n2 : ¬ (h.1.1 ≤ 23 + k ∧ 23 + k < h.1.1 + 7) := fun z => absurd z.1 (Nat.not_le.mpr c1)
      have n3 : ¬ (h.1.1 < 23 + k ∧ 23 + k < h.1.1 + 7) := fun z => absurd (Nat.le_of_lt z.1) (Nat.not_le.mpr c1)
      have eo : cellA w (mN h) (23 + k) = cellA w h (23 + k) := by
        simp only [cellA, h_k, h_i, h_l, h_r, mN, if_neg n1, if_neg n2, if_neg n3]
      rw [eo]
      have e2 := ws_get (w := w) (h := h) (a := 23 + k) (by omega) c1
      rw [show 23 + k - 23 = k by omega] at e2
      exact (hR.1.kept (H1 := T1.heap) (fun k x hx => fo x.1 ((hR.1 k x hx).lt))) k _ e2
    · by_cases c2 : 23 + k = h.1.1
      · have eo : cellA w (mN h) (23 + k) = .inl (w.2.2.2.2.1 5, 6, .inr (.inr (.inr (.inr (fun j => ((fun j => if j < 6 then some (h.1.1 + 1 + j) else none) j : Option Nat).map (w_ad w)))))) := by
          simp only [cellA, h_k, h_i, h_l, h_r, mN, if_pos c2]
          rfl
        rw [eo]
        show T1.heap[w.1 + k]? = some (arrV (w.2.2.2.2.1 5) 6 (fun j => va_rf ((if j < 6 then some (h.1.1 + 1 + j) else none : Option Nat).map (w_ad w))))
        have hh : h_n h = h.1.1 := rfl
        rw [show w.1 + k = H.size by omega, f2, outer_arr]
        congr 2
        funext j
        by_cases cj : j < 6
        · rw [if_pos cj, if_pos cj]
          show Value.ref _ = Value.ref (w_ad w (h.1.1 + 1 + j))
          unfold w_ad
          rw [if_neg (by omega)]
          exact congrArg Value.ref (show H.size + 1 + j = w.1 + (h.1.1 + 1 + j - 23) by omega)
        · rw [if_neg cj, if_neg cj]
          rfl
      · have hh : h_n h = h.1.1 := rfl
        have n2 : h.1.1 ≤ 23 + k ∧ 23 + k < h.1.1 + 7 := by omega
        have n3 : h.1.1 < 23 + k ∧ 23 + k < h.1.1 + 7 := by omega
        have eo : cellA w (mN h) (23 + k) = .inl (w.2.2.2.2.1 4, 60, .inr (.inl (fun _ => 0))) := by
          simp only [cellA, h_k, h_i, h_l, h_r, mN, if_neg c2, if_pos n2, if_pos n3]
          rfl
        rw [eo]
        show T1.heap[w.1 + k]? = some (arrV (w.2.2.2.2.1 4) 60 (fun _ => .long 0))
        rw [show w.1 + k = H.size + 1 + (23 + k - h.1.1 - 1) by omega, fi _ (by omega), ← arrV_new]
        rfl
  have k1 := kk ⟨by show _ ≤ h_n h + 7; omega, hc.1, by show _ ≤ h_s h + 366; omega, hc.2⟩ T1.heap locs ls ⟨hP, by rw [f1, hH]; show _ = w.1 + (h_n h + 7 - 23); omega, by show 23 ≤ h_n h + 7; omega⟩ ⟨by rw [f1]; have := hS.1; omega, fun x h1 h2 => (fo x (Nat.lt_of_lt_of_le h1 hS.1)).trans (hS.2.1 x h1 h2), hS.2.2⟩ hL
  have a1 : h_n (mN h) - (k_0 κ).1 = h_n h - (k_0 κ).1 + 1 + 6 := by show h_n h + 7 - _ = _; omega
  have a2 : h_s (mN h) - (k_0 κ).2 = h_s h - (k_0 κ).2 + 6 + 6 * 60 := by show h_s h + 366 - _ = _; omega
  obtain ⟨t, b1, b2⟩ := k1 T1 rfl (by rw [a1, a2]; exact X1)
  rw [List.map_cons, cv_ref h20, ← hH, ← hT] at b1
  exact ⟨t, step t b1, b2⟩
end RW67
