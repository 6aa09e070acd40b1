/-! the reference reads a clause -/
abbrev MC : Type := Bool × Nat × CLS
def clM3 (i v : Nat) (x : PR) : MC := (x.1, x.2.1, (i - 1, v, x.2.2))
def clM2 (T : TX) (i v : Nat) (t : PR) : MC := if t.1 = true then clM3 i v (exprF T (factorF T 4) t.2.1 []) else (false, t.2.1, (i - 1, v, []))
def clM1 (T : TX) (i : Nat) (q : Bool × Nat × Nat) : MC := if q.1 = true then (if 3 ≤ i then (true, q.2.1, (i - 1, q.2.2, [])) else clM2 T i q.2.2 (takeF T 32 q.2.1 [])) else (false, q.2.1, (i - 1, 0, []))
def clM0 (T : TX) (i : Nat) (r : PR) : MC := if r.1 = true then clM1 T i (numF T r.2.1) else (false, r.2.1, (i - 1, 0, []))
def clM (T : TX) (p : Nat) : MC := clM0 T (wordI (aheadI T p)) (wordF T (wN (wordI (aheadI T p))) p [])
/-- all but the clause's own places stays -/
def CkK (s cc : Nat) (M M1 : Mem) : Prop := (∀ b, b ≠ 80 → (b < 89 ∨ 94 < b) → M1 b = M b) ∧ (∀ j, j ≠ 14 → j ≠ 15 → j ≠ 24 → j ≠ 25 → j ≠ 26 → M1 80 j = M 80 j) ∧ (∀ i, i < s → M1 93 i = M 93 i) ∧ ∀ i, i ≠ cc → M1 89 i = M 89 i ∧ M1 90 i = M 90 i ∧ M1 91 i = M 91 i ∧ M1 92 i = M 92 i
theorem CkK.rf {s cc : Nat} {M : Mem} : CkK s cc M M := ⟨fun _ _ _ => rfl, fun _ _ _ _ _ _ => rfl, fun _ _ => rfl, fun _ _ => ⟨rfl, rfl, rfl, rfl⟩⟩
theorem CkK.tr {s cc : Nat} {M M1 M2 : Mem} (a : CkK s cc M M1) (b : CkK s cc M1 M2) : CkK s cc M M2 :=
  ⟨fun q h1 h2 => (b.1 q h1 h2).trans (a.1 q h1 h2), fun j h1 h2 h3 h4 h5 => (b.2.1 j h1 h2 h3 h4 h5).trans (a.2.1 j h1 h2 h3 h4 h5), fun i hi => (b.2.2.1 i hi).trans (a.2.2.1 i hi), fun i hi => ⟨(b.2.2.2 i hi).1.trans (a.2.2.2 i hi).1, (b.2.2.2 i hi).2.1.trans (a.2.2.2 i hi).2.1, (b.2.2.2 i hi).2.2.1.trans (a.2.2.2 i hi).2.2.1, (b.2.2.2 i hi).2.2.2.trans (a.2.2.2 i hi).2.2.2⟩⟩
theorem HdK.ck {s cc v : Nat} {M M1 : Mem} (k : HdK cc v M M1) : CkK s cc M M1 :=
  ⟨fun b h1 h2 => k.1 b h1 (by omega), fun j h1 h2 _ _ _ => k.2.1 j h1 h2, fun i _ => by rw [k.1 93 (by omega) (by omega)], fun i hi => ⟨k.2.2.1 i hi, by rw [k.1 90 (by omega) (by omega)], by rw [k.1 91 (by omega) (by omega)], by rw [k.1 92 (by omega) (by omega)]⟩⟩
theorem MtK.ck {s cc : Nat} {M M1 : Mem} (k : MtK M M1) : CkK s cc M M1 :=
  ⟨fun b h1 _ => k.1 b h1, fun j h1 h2 _ _ _ => k.2 j h1 h2, fun i _ => by rw [k.1 93 (by omega)], fun i _ => ⟨by rw [k.1 89 (by omega)], by rw [k.1 90 (by omega)], by rw [k.1 91 (by omega)], by rw [k.1 92 (by omega)]⟩⟩
theorem PKx.ck {s cc : Nat} {M M1 : Mem} (k : PKx s cc M M1) : CkK s cc M M1 :=
  ⟨fun b h1 h2 => k.1 b h1 (by omega) (by omega) (by omega) (by omega), k.2.1, k.2.2.1, fun i hi => ⟨by rw [k.1 89 (by omega) (by omega) (by omega) (by omega) (by omega)], by rw [k.1 90 (by omega) (by omega) (by omega) (by omega) (by omega)], (k.2.2.2.1 i hi).2, (k.2.2.2.1 i hi).1⟩⟩
theorem CkK.u90 {s cc : Nat} {M : Mem} {x : Int32} : CkK s cc M (mU M 90 (upd (M 90) cc x)) :=
  ⟨fun b h1 h2 => mU_ne (by omega), fun j _ _ _ _ _ => by rw [mU_ne (by omega)], fun i _ => by rw [mU_ne (by omega)], fun i hi => ⟨by rw [mU_ne (by omega)], by rw [mU_eq, pk_un hi], by rw [mU_ne (by omega)], by rw [mU_ne (by omega)]⟩⟩
theorem MtS.u90 {T : TX} {p : Nat} {M : Mem} (S : MtS T p M) {f : Nat → Int32} : MtS T p (mU M 90 f) := S.kept (by rw [mU_ne (by omega)]) (by rw [mU_ne (by omega)]) (mU_ne (by omega))
