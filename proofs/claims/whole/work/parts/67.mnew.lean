/-! six rows of sixty longs, made at once -/
def mN (h : hp_T) : hp_T := ((h.1.1 + 7, h.1.2 + 366), (fun b => if b = h.1.1 then (5, 6) else if h.1.1 < b ∧ b < h.1.1 + 7 then (4, 60) else h.2.1 b), (fun b => if h.1.1 ≤ b ∧ b < h.1.1 + 7 then (fun _ => 0) else h.2.2.1 b), (fun b => if h.1.1 ≤ b ∧ b < h.1.1 + 7 then (fun _ => 0) else h.2.2.2.1 b), fun b => if b = h.1.1 then (fun j => if j < 6 then some (h.1.1 + 1 + j) else none) else if h.1.1 ≤ b ∧ b < h.1.1 + 7 then (fun _ => none) else h.2.2.2.2 b)
theorem outer_arr {c : ClassId} {N h0 : Nat} : ∀ i : Nat, Jvm.Free.Multi.outerC c N h0 i = arrV c N (fun j => if j < i then .ref (h0 + 1 + j) else .null) := by
  intro i
  induction i with
  | zero =>
    show ({ cls := c, slots := Array.replicate N .null, vm := .none } : Cell) = _
    rw [arrV_new]
    congr 1
  | succ i ih =>
    show (Jvm.Free.Multi.outerC c N h0 i).setSlot i (.ref (h0 + 1 + i)) = _
    rw [ih, arrV_store]
    congr 1
    funext j
    show (if j = i then Value.ref (h0 + 1 + i) else if j < i then Value.ref (h0 + 1 + j) else Value.null) = if j < i + 1 then Value.ref (h0 + 1 + j) else Value.null
    by_cases e : j = i
    · subst e
      rw [if_pos rfl, if_pos (Nat.lt_succ_self _)]
    · rw [if_neg e]
      by_cases e2 : j < i
      · rw [if_pos e2, if_pos (by omega)]
      · rw [if_neg e2, if_neg (by omega)]
theorem js_1 : "[" ++ (FieldType.array .long).toString = "[[J" := by first | rfl | decide | decide +kernel
section RW67
variable {w : wc_T} {κ : cx_T} {d own nL : Nat} {cc : ByteArray} {rt : Option FieldType} {Φ : Option Value → hp_T → Prop} {pc : Nat} {L : List (Option Value)} {st : List Value} {h : hp_T}
set_option maxHeartbeats 4000000 in
theorem r_mnew (X : CX w κ d own cc nL rt Φ) {idx : Nat} (dc : decode cc pc = .ok (.multianewarray idx 2, 4)) (hm : Cond.classLink (cn own) idx "[[J" ∈ lw_tbl) (hc : h_n h + 7 ≤ (k_1 κ).1 ∧ h_s h + 366 ≤ (k_1 κ).2) (kk : GG w κ (pc + 4) L (.ref (h_n h) :: st) (mN h)) : GG w κ pc L (.int (nI 60) :: .int (nI 6) :: st) h := by
  sorry
end RW67
