/-! THE WORLD AS NUMBERS. A heap of this claim's own cells is read as numbers: a cell has an id (23, 21 .. in the order in which cells are made; 0 .. 22: what was there before: the script, two tables, the literals), a kind, and rows of ints, longs, ids. A method's contract says what it does to these numbers. -/
/-- (cells made + 23, slots made), kinds, ints, longs, references -/
abbrev hp_T : Type := (Nat × Nat) × (Nat → Nat × Nat) × (Nat → Nat → Int32) × (Nat → Nat → Int64) × (Nat → Nat → Option Nat)
def h_n (h : hp_T) : Nat := h.1.1
def h_s (h : hp_T) : Nat := h.1.2
def h_k (h : hp_T) : Nat → Nat × Nat := h.2.1
def h_i (h : hp_T) : Nat → Nat → Int32 := h.2.2.1
def h_l (h : hp_T) : Nat → Nat → Int64 := h.2.2.2.1
def h_r (h : hp_T) : Nat → Nat → Option Nat := h.2.2.2.2
def sI (h : hp_T) (a : Nat) (f : Nat → Int32) : hp_T := (h.1, h.2.1, (fun b => if b = a then f else h.2.2.1 b), h.2.2.2)
def sL (h : hp_T) (a : Nat) (f : Nat → Int64) : hp_T := (h.1, h.2.1, h.2.2.1, (fun b => if b = a then f else h.2.2.2.1 b), h.2.2.2.2)
def sR (h : hp_T) (a : Nat) (f : Nat → Option Nat) : hp_T := (h.1, h.2.1, h.2.2.1, h.2.2.2.1, fun b => if b = a then f else h.2.2.2.2 b)
/-- a new cell of kind t n with len slots -/
def nC (h : hp_T) (t n len : Nat) : hp_T := ((h.1.1 + 1, h.1.2 + len), (fun b => if b = h.1.1 then (t, n) else h.2.1 b), (fun b => if b = h.1.1 then (fun _ => 0) else h.2.2.1 b), (fun b => if b = h.1.1 then (fun _ => 0) else h.2.2.2.1 b), fun b => if b = h.1.1 then (fun _ => none) else h.2.2.2.2 b)
/-- the world that stands: first address of what is made; addresses of what was there; a JDK static; class numbers; array classes by kind; the script -/
abbrev wc_T : Type := Nat × (Nat → Nat) × Option Nat × va_G × (Nat → ClassId) × Nat × (Nat → Int32)
def w_A (w : wc_T) : Nat → Prop := fun q => w.1 ≤ q
def w_ad (w : wc_T) (k : Nat) : Nat := if k < 23 then w.2.1 k else w.1 + (k - 23)
def cv (w : wc_T) (v : Value) : Value := match v with
  | .ref k => if k = 19 then va_rf w.2.2.1 else .ref (w_ad w k)
  | x => x
def w_ty (w : wc_T) : List (ClassId × FieldType) := [(w.2.2.2.2.1 1, .int), (w.2.2.2.2.1 2, .byte), (w.2.2.2.2.1 3, .boolean), (w.2.2.2.2.1 4, .long), (w.2.2.2.2.1 5, .array .long)]
def ty_i (t : FieldType) : Bool := match t with
  | .int => true
  | .boolean => true
  | .byte => true
  | .short => true
  | .char => true
  | _ => false
def ty_r (t : FieldType) : Bool := match t with
  | .object _ => true
  | .array _ => true
  | _ => false
/-- a field's value -/
def fa (t : FieldType) (x : Int32) (y : Int64) (r : Option Nat) : Value := match t with
  | .object _ => va_rf r
  | .array _ => va_rf r
  | .long => .long y
  | _ => .int x
def tyL : List (Nat → FieldType) := [tyX0, tyX1, tyX2, tyX3, tyX4, tyX5, tyX6, tyX7, tyX8]
def tt (ci k : Nat) : FieldType := tyL.getD ci tyX0 k
def nf (ci : Nat) : Nat := [5, 3, 3, 8, 4, 12, 3, 9, 74].getD ci 0
def cellE (w : wc_T) (kd : Nat × Nat) (fi : Nat → Int32) (fl : Nat → Int64) (fr : Nat → Option Nat) : va_E := match kd.1 with
  | 0 => .inr (kd.2, (List.range (nf kd.2)).map (fun j => cv w (fa (tt kd.2 j) (fi j) (fl j) (fr j))))
  | 1 => .inl (w.2.2.2.2.1 1, kd.2, .inl fi)
  | 2 => .inl (w.2.2.2.2.1 2, kd.2, .inl fi)
  | 3 => .inl (w.2.2.2.2.1 3, kd.2, .inl fi)
  | 4 => .inl (w.2.2.2.2.1 4, kd.2, .inr (.inl fl))
  | _ => .inl (w.2.2.2.2.1 5, kd.2, .inr (.inr (.inr (.inr (fun j => (fr j).map (w_ad w))))))
def cellA (w : wc_T) (h : hp_T) (a : Nat) : va_E := cellE w (h_k h a) (h_i h a) (h_l h a) (h_r h a)
def wsA (w : wc_T) (h : hp_T) : va_W := (List.range (h_n h - 23)).map (fun k => (w.1 + k, cellA w h (23 + k)))
/-- the heap H is what the numbers h say -/
def Rp (w : wc_T) (h : hp_T) (H : Heap) : Prop := va_P w.2.2.2.1 vwCl (wsA w h) H ∧ H.size = w.1 + (h_n h - 23) ∧ 23 ≤ h_n h
/-- the cell a is of kind t n -/
def ck (h : hp_T) (a t n : Nat) : Prop := h_k h a = (t, n) ∧ 23 ≤ a ∧ a < h_n h
theorem ws_get {w : wc_T} {h : hp_T} {a : Nat} (h1 : 23 ≤ a) (h2 : a < h_n h) : (wsA w h)[a - 23]? = some (w.1 + (a - 23), cellA w h a) := by
  unfold wsA
  rw [List.getElem?_map, List.getElem?_range (by omega)]
  show some (w.1 + (a - 23), cellA w h (23 + (a - 23))) = _
  rw [show 23 + (a - 23) = a by omega]
theorem ws_getK {w : wc_T} {h : hp_T} {a t n : Nat} (hs : ck h a t n) : (wsA w h)[a - 23]? = some (w.1 + (a - 23), cellE w (t, n) (h_i h a) (h_l h a) (h_r h a)) := by
  rw [ws_get hs.2.1 hs.2.2, cellA, hs.1]
theorem ws_len {w : wc_T} {h : hp_T} : (wsA w h).length = h_n h - 23 := by simp [wsA]
theorem ws_set {w : wc_T} {h h' : hp_T} {a : Nat} (h1 : 23 ≤ a) (h2 : a < h_n h) (hn : h_n h' = h_n h) (ho : ∀ b, b ≠ a → cellA w h' b = cellA w h b) {e : va_E} (he : e = cellA w h' a) : (wsA w h).set (a - 23) (w.1 + (a - 23), e) = wsA w h' := by
  apply List.ext_getElem?
  intro i
  rw [List.getElem?_set]
  by_cases hi : a - 23 = i
  · subst hi
    rw [if_pos rfl, if_pos (by rw [ws_len]; omega), ws_get h1 (by omega), he]
  · rw [if_neg hi]
    by_cases hl : i < h_n h - 23
    · have e1 := ws_get (w := w) (h := h) (a := 23 + i) (by omega) (by omega)
      have e2 := ws_get (w := w) (h := h') (a := 23 + i) (by omega) (by omega)
      rw [show 23 + i - 23 = i by omega] at e1 e2
      rw [e1, e2, ho (23 + i) (by omega)]
    · rw [List.getElem?_eq_none (by rw [ws_len]; omega), List.getElem?_eq_none (by rw [ws_len]; omega)]
theorem ws_push {w : wc_T} {h h' : hp_T} (h0 : 23 ≤ h_n h) (hn : h_n h' = h_n h + 1) (ho : ∀ b, b < h_n h → cellA w h' b = cellA w h b) {e : va_E} (he : e = cellA w h' (h_n h)) : wsA w h ++ [(w.1 + (h_n h - 23), e)] = wsA w h' := by
  unfold wsA
  rw [hn, show h_n h + 1 - 23 = (h_n h - 23) + 1 by omega, List.range_succ, List.map_append]
  congr 1
  · apply List.map_congr_left
    intro k hk
    have := List.mem_range.mp hk
    rw [ho (23 + k) (by omega)]
  · simp only [List.map_cons, List.map_nil]
    rw [show 23 + (h_n h - 23) = h_n h by omega, he]
theorem ws_D {w : wc_T} {h : hp_T} : va_D (w_A w) (wsA w h) := by
  refine ⟨fun i j p q hi hj e => ?_, fun k q hk => ?_⟩
  · have a1 : i < h_n h - 23 := by rw [← ws_len (w := w)]; exact (List.getElem?_eq_some_iff.mp hi).1
    have a2 : j < h_n h - 23 := by rw [← ws_len (w := w)]; exact (List.getElem?_eq_some_iff.mp hj).1
    have e1 := ws_get (w := w) (h := h) (a := 23 + i) (by omega) (by omega)
    have e2 := ws_get (w := w) (h := h) (a := 23 + j) (by omega) (by omega)
    rw [show 23 + i - 23 = i by omega] at e1
    rw [show 23 + j - 23 = j by omega] at e2
    rw [e1] at hi
    rw [e2] at hj
    cases hi
    cases hj
    simp only at e
    omega
  · have a1 : k < h_n h - 23 := by rw [← ws_len (w := w)]; exact (List.getElem?_eq_some_iff.mp hk).1
    have e1 := ws_get (w := w) (h := h) (a := 23 + k) (by omega) (by omega)
    rw [show 23 + k - 23 = k by omega] at e1
    rw [e1] at hk
    cases hk
    exact Nat.le_add_right _ _
theorem cv_ref {w : wc_T} {k : Nat} (h : 23 ≤ k) : cv w (.ref k) = .ref (w.1 + (k - 23)) := by
  have h1 : ¬ k = 19 := by omega
  have h2 : ¬ k < 23 := by omega
  simp only [cv, w_ad, if_neg h1, if_neg h2]
theorem cv_out {w : wc_T} {k : Nat} (h : k < 19) : cv w (.ref k) = .ref (w.2.1 k) := by
  have h1 : ¬ k = 19 := by omega
  have h2 : k < 23 := by omega
  simp only [cv, w_ad, if_neg h1, if_pos h2]
theorem cv_cat {w : wc_T} (v : Value) : (cv w v).category = v.category := by
  cases v <;> simp only [cv]
  split
  · cases w.2.2.1 <;> rfl
  · rfl
theorem cv_rf {w : wc_T} {r : Option Nat} (h : ∀ k, r = some k → 23 ≤ k) : cv w (va_rf r) = va_rf (r.map (w_ad w)) := by
  cases r with
  | none => rfl
  | some k =>
    have := h k rfl
    show cv w (.ref k) = .ref (w_ad w k)
    rw [cv_ref this, w_ad, if_neg (by omega)]
-- the classes' facts
theorem gd_lay {C : String} {T : u_T} {N : Nat} : ∀ x ∈ u_ws C T N, goodWord x = true := by
  intro x hx
  obtain ⟨k, -, rfl⟩ := List.mem_map.mp hx
  unfold u_lay
  split <;> rfl
/-- the words that a method starts with -/
def gd_W : List Cond := lw_tbl.filter goodWord
theorem gd_in {x : Cond} (h : x ∈ lw_tbl) (hg : goodWord x = true) : x ∈ gd_W := List.mem_filter.mpr ⟨h, hg⟩
theorem gd_ws {C : String} {T : u_T} {N : Nat} {ps : List Nat} (h : u_ws C T N = ps.filterMap (fun i => lw_tbl[i]?)) : ∀ x ∈ u_ws C T N, x ∈ gd_W := by
  intro x hx
  refine gd_in ?_ (gd_lay x hx)
  rw [h] at hx
  obtain ⟨i, -, hi⟩ := List.mem_filterMap.mp hx
  exact List.mem_of_getElem? hi
theorem cf_all {ci : Nat} {r : vw_C} (h : vwCl[ci]? = some r) : (∀ k, k < r.2.2 → parseFieldDescriptor (r.2.1 k).2.2.1 = some (tt ci k)) ∧ (∀ a, a < r.2.2 → ∀ b, b < r.2.2 → a ≠ b → (r.2.1 a).2.1 ≠ (r.2.1 b).2.1) ∧ (∀ x ∈ u_ws r.1 r.2.1 r.2.2, x ∈ gd_W) ∧ r.2.2 = nf ci := by
  have hl : ci < 9 := (List.getElem?_eq_some_iff.mp h).1
  rcases (show ci = 0 ∨ ci = 1 ∨ ci = 2 ∨ ci = 3 ∨ ci = 4 ∨ ci = 5 ∨ ci = 6 ∨ ci = 7 ∨ ci = 8 by omega) with rfl | rfl | rfl | rfl | rfl | rfl | rfl | rfl | rfl <;> cases h
  · exact ⟨tyX0_ok, nmX0, gd_ws iw_X0, rfl⟩
  · exact ⟨tyX1_ok, nmX1, gd_ws iw_X1, rfl⟩
  · exact ⟨tyX2_ok, nmX2, gd_ws iw_X2, rfl⟩
  · exact ⟨tyX3_ok, nmX3, gd_ws iw_X3, rfl⟩
  · exact ⟨tyX4_ok, nmX4, gd_ws iw_X4, rfl⟩
  · exact ⟨tyX5_ok, nmX5, gd_ws iw_X5, rfl⟩
  · exact ⟨tyX6_ok, nmX6, gd_ws iw_X6, rfl⟩
  · exact ⟨tyX7_ok, nmX7, gd_ws iw_X7, rfl⟩
  · exact ⟨tyX8_ok, nmX8, gd_ws iw_X8, rfl⟩
theorem tf_ok {own idx ci k : Nat} (h : tf own idx ci k) : ∃ r : vw_C, vwCl[ci]? = some r ∧ k < r.2.2 ∧ Cond.fieldLink (cn own) idx (r.2.1 k).1 (r.2.1 k).2.1 (r.2.1 k).2.2.1 ∈ gd_W := by
  obtain ⟨p, hp⟩ := h
  obtain ⟨r, h1, h2, h3⟩ := fl_okA _ hp
  exact ⟨r, h1, h2, gd_in (List.mem_of_getElem? h3) rfl⟩
-- locals
def LR (w : wc_T) (ls : Array Slot) (L : List (Option Value)) : Prop := ls.size = L.length ∧ lv_wf ls ∧ ∀ (i : Nat) (v : Value), L[i]? = some (some v) → ls[i]? = some (.val (cv w v))
def al_L (w : wc_T) (L : List (Option Value)) : List (Nat × Value) := (List.range L.length).filterMap (fun i => match L[i]? with
  | some (some v) => some (i, cv w v)
  | _ => none)
theorem al_mem {w : wc_T} {L : List (Option Value)} {i : Nat} {v : Value} (h : L[i]? = some (some v)) : (i, cv w v) ∈ al_L w L :=
  List.mem_filterMap.mpr ⟨i, List.mem_range.mpr (List.getElem?_eq_some_iff.mp h).1, by simp [h]⟩
theorem LR.has {w : wc_T} {ls : Array Slot} {L : List (Option Value)} (h : LR w ls L) : lv_has ls L.length (al_L w L) := by
  refine ⟨h.1, h.2.1, fun q hq => ?_⟩
  obtain ⟨i, -, hi⟩ := List.mem_filterMap.mp hq
  cases hL : L[i]? with
  | none => simp [hL] at hi
  | some o =>
    cases o with
    | none => simp [hL] at hi
    | some v =>
      simp only [hL, Option.some.injEq] at hi
      subst hi
      exact h.2.2 i v hL
def un2 (L : List (Option Value)) (i : Nat) : List (Option Value) := match i with
  | 0 => L
  | j + 1 => match L[j]? with
    | some (some (.long _)) => L.set j none
    | some (some (.double _)) => L.set j none
    | _ => L
def st1 (L : List (Option Value)) (i : Nat) (v : Value) : List (Option Value) := (un2 L i).set i (some v)
def st2 (L : List (Option Value)) (i : Nat) (v : Value) : List (Option Value) := ((un2 L i).set (i + 1) none).set i (some v)
theorem un2_len (L : List (Option Value)) (i : Nat) : (un2 L i).length = L.length := by
  unfold un2
  split
  · rfl
  · split <;> simp
theorem un2_get {L : List (Option Value)} {i j : Nat} {v : Value} (h : (un2 L i)[j]? = some (some v)) : L[j]? = some (some v) ∧ (j + 1 = i → v.category ≠ 2) := by
  unfold un2 at h
  split at h
  · exact ⟨h, fun e => by omega⟩
  · rename_i i
    split at h
    all_goals first
      | (rw [List.getElem?_set] at h
         split at h
         · split at h <;> cases h
         · exact ⟨h, fun e => by omega⟩)
      | (rename_i h1 h2
         refine ⟨h, fun e hc => ?_⟩
         have e' : j = i := by omega
         subst e'
         cases v with
         | long x => exact h1 x h
         | double x => exact h2 x h
         | _ => simp [Value.category] at hc)
theorem LR_st1 {w : wc_T} {ls' : Array Slot} {L : List (Option Value)} {i : Nat} {v : Value} (hi : i < L.length) (h : lv_has ls' L.length ((i, cv w v) :: (al_L w L).filter (fun q => !(q.1 == i) && !(q.1 + 1 == i && q.2.category == 2)))) : LR w ls' (st1 L i v) := by
  refine ⟨by rw [h.1]; simp [st1, un2_len], h.2.1, fun j u hj => ?_⟩
  unfold st1 at hj
  rw [List.getElem?_set] at hj
  split at hj
  · rename_i e
    subst e
    rw [if_pos (by rw [un2_len]; exact hi)] at hj
    cases hj
    exact h.2.2 (i, cv w v) List.mem_cons_self
  · rename_i e
    obtain ⟨h1, h2⟩ := un2_get hj
    refine h.2.2 (j, cv w u) (List.mem_cons_of_mem _ (List.mem_filter.mpr ⟨al_mem h1, ?_⟩))
    have e1 : (j == i) = false := by simp; omega
    by_cases e2 : j + 1 = i
    · have h3 := h2 e2
      simp only [e1, cv_cat]
      simp [h3]
    · have e3 : (j + 1 == i) = false := by simp [e2]
      simp only [e1, e3]
      rfl
theorem LR_st2 {w : wc_T} {ls' : Array Slot} {L : List (Option Value)} {i : Nat} {v : Value} (hi : i + 1 < L.length) (h : lv_has ls' L.length ((i, cv w v) :: (al_L w L).filter (fun q => !(q.1 == i) && (!(q.1 == i + 1) && !(q.1 + 1 == i && q.2.category == 2))))) : LR w ls' (st2 L i v) := by
  refine ⟨by rw [h.1]; simp [st2, un2_len], h.2.1, fun j u hj => ?_⟩
  unfold st2 at hj
  rw [List.getElem?_set] at hj
  split at hj
  · rename_i e
    subst e
    rw [if_pos (by rw [List.length_set, un2_len]; omega)] at hj
    cases hj
    exact h.2.2 (i, cv w v) List.mem_cons_self
  · rename_i e
    rw [List.getElem?_set] at hj
    split at hj
    · split at hj <;> cases hj
    · rename_i e4
      obtain ⟨h1, h2⟩ := un2_get hj
      refine h.2.2 (j, cv w u) (List.mem_cons_of_mem _ (List.mem_filter.mpr ⟨al_mem h1, ?_⟩))
      have e1 : (j == i) = false := by simp; omega
      have e5 : (j == i + 1) = false := by simp; omega
      by_cases e2 : j + 1 = i
      · have h3 := h2 e2
        simp only [e1, e5, cv_cat]
        simp [h3]
      · have e3 : (j + 1 == i) = false := by simp [e2]
        simp only [e1, e3, e5]
        rfl
/-- the arguments as locals -/
def lay : List Value → List (Option Value)
  | [] => []
  | .long x :: r => some (.long x) :: none :: lay r
  | .double x :: r => some (.double x) :: none :: lay r
  | v :: r => some v :: lay r
def pad (L : List (Option Value)) (n : Nat) : List (Option Value) := L ++ List.replicate (n - L.length) none
theorem lay_args {w : wc_T} : ∀ (vs : List Value) (i j : Nat) (u : Value), (lay vs)[j]? = some (some u) → (i + j, cv w u) ∈ lv_args i (vs.map (cv w)) := by
  intro vs
  induction vs with
  | nil => intro i j u h; simp [lay] at h
  | cons v r ih =>
    intro i j u h
    have one : ∀ (h0 : lay (v :: r) = some v :: lay r) (hc : (cv w v).category = 1), (i + j, cv w u) ∈ lv_args i ((v :: r).map (cv w)) := by
      intro h0 hc
      rw [h0] at h
      cases j with
      | zero =>
        simp only [List.getElem?_cons_zero, Option.some.injEq] at h
        subst h
        simp [lv_args]
      | succ j =>
        simp only [List.getElem?_cons_succ] at h
        have := ih (i + 1) j u h
        simp only [List.map_cons, lv_args, hc]
        rw [show i + (j + 1) = i + 1 + j by omega]
        exact List.mem_cons_of_mem _ this
    have two : ∀ (h0 : lay (v :: r) = some v :: none :: lay r) (hc : (cv w v).category = 2), (i + j, cv w u) ∈ lv_args i ((v :: r).map (cv w)) := by
      intro h0 hc
      rw [h0] at h
      cases j with
      | zero =>
        simp only [List.getElem?_cons_zero, Option.some.injEq] at h
        subst h
        simp [lv_args]
      | succ j =>
        cases j with
        | zero => simp at h
        | succ j =>
          simp only [List.getElem?_cons_succ] at h
          have := ih (i + 2) j u h
          simp only [List.map_cons, lv_args, hc]
          rw [show i + (j + 1 + 1) = i + 2 + j by omega]
          exact List.mem_cons_of_mem _ this
    cases v with
    | long x => exact two rfl (cv_cat _)
    | double x => exact two rfl (cv_cat _)
    | _ => exact one rfl (cv_cat _)
theorem lg_lay {w : wc_T} : ∀ vs : List Value, (lg_sl (vs.map (cv w))).length = (lay vs).length := by
  intro vs
  induction vs with
  | nil => rfl
  | cons v r ih =>
    have e : lg_sl ((v :: r).map (cv w)) = (if (cv w v).category = 2 then [Slot.val (cv w v), .second] else [.val (cv w v)]) ++ lg_sl (r.map (cv w)) := rfl
    rw [e, List.length_append, ih, cv_cat]
    cases v <;> simp [lay, Value.category] <;> omega
theorem LR_entry {w : wc_T} {vs : List Value} {n : Nat} (hn : (lay vs).length ≤ n) : LR w ((lg_sl (vs.map (cv w)) ++ List.replicate (n - (lg_sl (vs.map (cv w))).length) Slot.unset).toArray) (pad (lay vs) n) := by
  have hlen := lg_lay (w := w) vs
  have h := lv_entry (vs.map (cv w)) (n := n) (by omega)
  refine ⟨?_, h.2.1, fun j u hj => ?_⟩
  · rw [h.1]
    simp only [pad, List.length_append, List.length_replicate]
    omega
  · unfold pad at hj
    rw [List.getElem?_append] at hj
    split at hj
    · have := lay_args (w := w) vs 0 j u hj
      rw [Nat.zero_add] at this
      exact h.2.2 (j, cv w u) this
    · rw [List.getElem?_replicate] at hj
      split at hj <;> cases hj
-- what stands
def sOwn (i : Nat) : Nat := [3, 3, 3, 3, 3, 3, 3].getD i 0
def sIdx (i : Nat) : Nat := [97, 75, 77, 79, 81, 97, 103].getD i 0
def sTx (i : Nat) : String := ["pkdhws", "rain ", "dry ", "far ", "cost ", "pkdhws", "<=>"].getD i ""
def sBy (i : Nat) : List Int32 := [[112, 107, 100, 104, 119, 115], [114, 97, 105, 110, 32], [100, 114, 121, 32], [102, 97, 114, 32], [99, 111, 115, 116, 32], [112, 107, 100, 104, 119, 115], [60, 61, 62]].getD i []
def aboveL : List Int32 := [-1, 0, 0, 0, 1, 2, 3]
def bodiesL : List Int32 := [10, 10, 30, 10, 50, 30, 71, 11, 20, 11, 11, 51, 11, 70, 12, 12, 12, 40, 12, 60, 40]
theorem ov_same {U u : State} (hv : U.vm = u.vm) {A B : Array Value} (h : (Cond.arrayOver (.array .long)).before A u = true) : (Cond.arrayOver (.array .long)).before B U = true := by
  simp only [Cond.before, Cond.holds, Cond.value] at h ⊢
  rw [hv]
  exact h
theorem ov_warm {s U : State} (hW : s.WarmedH U.vm) {A B : Array Value} (h : (Cond.arrayOver (.array .long)).before A s = true) : (Cond.arrayOver (.array .long)).before B U = true := by
  refine ov_same (u := s.setVm U.vm) (A := A) (B := B) rfl ?_
  rw [Cond.arrayOver_setVmC hW.alike]
  exact h
/-- the outer world at a state U with a heap H -/
def Wd (w : wc_T) (U : State) (H : Heap) : Prop :=
  va_K w.2.2.2.1 vwCl (w_ty w) U ∧ va_X (w.2.1 0) w.2.2.2.2.2.1 w.2.2.2.2.2.2 U H ∧ (w.2.1 0 < H.size ∧ w.2.1 0 < w.1) ∧
  (va_Z "LastAtPump" "ABOVE" "[I" (.ref (w.2.1 1)) (w_A w) U H ∧ va_T .int (w.2.1 1) 7 (fun j => .int (aboveL.getD j 0)) (w_A w) U H) ∧
  (va_Z "LastAtPump$Acts" "BODIES" "[I" (.ref (w.2.1 2)) (w_A w) U H ∧ va_T .int (w.2.1 2) 21 (fun j => .int (bodiesL.getD j 0)) (w_A w) U H) ∧
  (va_Z "java/lang/String" "COMPACT_STRINGS" "Z" (.int 1) (w_A w) U H ∧ va_Z "jdk/internal/util/Preconditions" "SIOOBE_FORMATTER" "Ljava/util/function/BiFunction;" (va_rf w.2.2.1) (w_A w) U H) ∧
  (∀ i : Nat, i < 7 → vk_R (cn (sOwn i)) (sIdx i) (sTx i) (w.2.1 (3 + i)) U ∧ va_O "java/lang/String" (w.2.1 (3 + i)) (w_A w) U H ∧ va_OF "java/lang/String" "coder" "B" (.int 0) (w.2.1 (3 + i)) (w_A w) U H ∧ va_OF "java/lang/String" "value" "[B" (.ref (w.2.1 (10 + i))) (w.2.1 (3 + i)) (w_A w) U H ∧ va_T .byte (w.2.1 (10 + i)) (sBy i).length (fun j => .int ((sBy i).getD j 0)) (w_A w) U H) ∧
  (∀ (a : String) (i : Nat) (x : MethodName) (b : String), Cond.methodLinkNest a i x b ∈ lw_tbl → va_Nw (.methodLinkNest a i x b) U) ∧ va_Nw (.castable "[I" "java/lang/Cloneable") U ∧ (Cond.arrayOver (.array .long)).before #[] U = true
theorem Wd.go {w : wc_T} {s U : State} {H : Heap} {locs : List Loc} (h : Wd w s s.heap) (hW : s.WarmedH U.vm) (hS : va_S (w_A w) s.heap H locs) : Wd w U H := by
  have hk := hS.2.1
  obtain ⟨a1, a2, a3, a4, a5, a6, a7, a8, a9⟩ := h
  have ha := hW.alike
  have hb : ¬ w_A w (w.2.1 0) := by unfold w_A; omega
  refine ⟨a1.moved ha, (a2.kept (hk _ a3.1 hb)).moved ha, ⟨Nat.lt_of_lt_of_le a3.1 hS.1, a3.2⟩, ⟨(a4.1.kept hk).moved ha, (a4.2.kept hk).moved ha⟩, ⟨(a5.1.kept hk).moved ha, (a5.2.kept hk).moved ha⟩, ⟨(a6.1.kept hk).moved ha, (a6.2.kept hk).moved ha⟩, fun i hi => ?_, fun a i x b hx => va_Nw.warmM hW (a8 a i x b hx), ⟨va_Nw.warmC hW a9.1, ov_warm hW a9.2⟩⟩
  obtain ⟨b1, b2, b3, b4, b5⟩ := a7 i hi
  exact ⟨b1.warm hW, (b2.kept hk).moved ha, (b3.kept hk).moved ha, (b4.kept hk).moved ha, (b5.kept hk).moved ha⟩
-- a method's body: where it stands
/-- program, launch, env, room, start, method, arguments, below, its record, its code, goal; cells and slots at its start, and at most -/
abbrev cx_T : Type := Program × Launch × Env × Room × State × MethodId × Array Value × List Frame × Method × Code × (State → Prop) × (Nat × Nat) × (Nat × Nat)
abbrev k_R (κ : cx_T) : Room := κ.2.2.2.1
abbrev k_s (κ : cx_T) : State := κ.2.2.2.2.1
abbrev k_m (κ : cx_T) : MethodId := κ.2.2.2.2.2.1
abbrev k_a (κ : cx_T) : Array Value := κ.2.2.2.2.2.2.1
abbrev k_b (κ : cx_T) : List Frame := κ.2.2.2.2.2.2.2.1
abbrev k_t (κ : cx_T) : Method := κ.2.2.2.2.2.2.2.2.1
abbrev k_c (κ : cx_T) : Code := κ.2.2.2.2.2.2.2.2.2.1
abbrev k_Q (κ : cx_T) : State → Prop := κ.2.2.2.2.2.2.2.2.2.2.1
abbrev k_0 (κ : cx_T) : Nat × Nat := κ.2.2.2.2.2.2.2.2.2.2.2.1
abbrev k_1 (κ : cx_T) : Nat × Nat := κ.2.2.2.2.2.2.2.2.2.2.2.2
abbrev Wk (κ : cx_T) (h : hp_T) (H : Heap) (locs : List Loc) (g : JFrame) : Prop := W κ.1 κ.2.1 κ.2.2.1 (k_R κ) (k_s κ) (k_m κ) (k_a κ) (k_b κ) (k_t κ) (k_c κ) H locs (h_n h - (k_0 κ).1) (h_s h - (k_0 κ).2) (k_Q κ) g
/-- from the frame at pc with these locals and this stack, in a world that the numbers h say, the goal is reached -/
def GG (w : wc_T) (κ : cx_T) (pc : Nat) (L : List (Option Value)) (st : List Value) (h : hp_T) : Prop :=
  ((k_0 κ).1 ≤ h_n h ∧ h_n h ≤ (k_1 κ).1 ∧ (k_0 κ).2 ≤ h_s h ∧ h_s h ≤ (k_1 κ).2) → ∀ (H : Heap) (locs : List Loc) (ls : Array Slot), Rp w h H → va_S (w_A w) (k_s κ).heap H locs → LR w ls L → Wk κ h H locs (F0 (k_m κ) pc ls (st.map (cv w)))
/-- what a return gives back -/
def rt_of (rt : Option FieldType) (i : Instr) (v : Option Value) (vs : List Value) : Prop :=
  (i = .return_ ∧ rt = none ∧ v = none ∧ vs = []) ∨ (i = .ireturn ∧ ∃ (t : FieldType) (x : Int32), rt = some t ∧ narrow t (.int x) = .int x ∧ v = some (.int x) ∧ vs = [.int x]) ∨ (i = .lreturn ∧ ∃ x : Int64, rt = some .long ∧ v = some (.long x) ∧ vs = [.long x]) ∨
  (i = .areturn ∧ ∃ (t : FieldType) (r : Option Nat), rt = some t ∧ ((∃ n, t = .object n) ∨ ∃ u, t = .array u) ∧ v = some (va_rf r) ∧ vs = [va_rf r] ∧ r ≠ some 19)
/-- the facts of a method's body -/
def CX (w : wc_T) (κ : cx_T) (d own : Nat) (cc : ByteArray) (nL : Nat) (rt : Option FieldType) (Φ : Option Value → hp_T → Prop) : Prop :=
  (κ.1.tables.exec = Jvm.exec ∧ (k_c κ).code = cc ∧ (k_c κ).maxLocals = nL ∧ (k_t κ).sig.returnType = rt ∧ (k_t κ).locks = false) ∧
  ((∀ x ∈ gd_W, x.before (k_a κ) (k_s κ) = true) ∧ (k_s κ).vm.findClass (cn own) = some (k_m κ).cls ∧ Wd w (k_s κ) (k_s κ).heap ∧ w.1 ≤ (k_s κ).heap.size) ∧
  (d ≤ (k_R κ).frames ∧ 64 * d ≤ (k_R κ).locals) ∧ ((k_1 κ).1 ≤ (k_0 κ).1 + (k_R κ).cells ∧ (k_1 κ).2 ≤ (k_0 κ).2 + (k_R κ).slots) ∧ ((k_s κ).heap.size = w.1 + ((k_0 κ).1 - 23) ∧ 23 ≤ (k_0 κ).1) ∧
  (∀ (pc : Nat) (i : Instr) (v : Option Value) (vs : List Value) (h : hp_T) (H : Heap) (locs : List Loc) (ls : Array Slot), rt_of rt i v vs → decode cc pc = .ok (i, 1) → Φ v h → ((k_0 κ).1 ≤ h_n h ∧ h_n h ≤ (k_1 κ).1 ∧ (k_0 κ).2 ≤ h_s h ∧ h_s h ≤ (k_1 κ).2) → Rp w h H → va_S (w_A w) (k_s κ).heap H locs → Wk κ h H locs (F0 (k_m κ) pc ls (vs.map (cv w))))
