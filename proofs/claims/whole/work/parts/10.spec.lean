/-! WHAT A STREET DOES, AS NUMBERS. A view V: V 0 the object's own row (6 people, 7 with, 8 weight, 9 step, 10 last), V 1 kind, V 2 v, V 3 door, V 4 hopes, V 5 said, V 6 rows -/
abbrev VT : Type := Nat → Nat → Int32
def Sv (M : Mem) (o : Nat) : VT := fun f => if f ≤ 6 then M (o + f) else fun _ => 0
def vU (V : VT) (f i : Nat) (x : Int32) : VT := fun g j => if g = f ∧ j = i then x else V g j
def vP (V : VT) : Nat := (V 0 6).toNatClampNeg
def vW (V : VT) : Nat := (V 0 7).toNatClampNeg
/-- an evening: far, cost, and rain by facts -/
abbrev EV : Type := Int32 × Int32 × ((Nat → Int32) → Int32)
def E0 : EV := (nI 12, nI 5, fun _ => nI 0)
def wayF (V : VT) (p q : Nat) : Int32 := if 0 ≤ V 3 p - V 3 q then V 3 p - V 3 q else 0 - (V 3 p - V 3 q)
def mx (x y : Int32) : Int32 := if x < y then y else x
def mn (x y : Int32) : Int32 := if y < x then y else x
def rem_ (x y : Int32) : Int32 := x - x / y * y
def plainF (E : EV) (V : VT) : Int32 := mx (nI 0) (E.1 - V 0 8 / nI 8)
def oldF (E : EV) (V : VT) (p : Nat) : Int32 := mx (nI 0) (plainF E V - V 2 p / nI 2)
def dreadF (V : VT) (p : Nat) : Bool := !decide (V 2 p + nI 2 ≤ 0) && decide (rem_ (V 0 9) (V 2 p + nI 2) = 0)
def reachF (E : EV) (V : VT) (p : Nat) : Int32 :=
  if V 1 p = nI 1 then oldF E V p else if V 1 p = nI 4 then oldF E V p / nI 2 else if V 1 p = nI 2 then plainF E V + nI 2
  else if V 1 p = nI 5 then (if dreadF V p = true then nI 0 else plainF E V + nI 2) else if V 1 p = nI 6 then plainF E V + V 6 (p * 4 + (rem_ (V 0 9) (nI 4)).toNatClampNeg) else plainF E V
/-- the best of the first k -/
def bestO (ok : Nat → Bool) (lt : Nat → Nat → Bool) : Nat → Option Nat
  | 0 => none
  | k + 1 => match bestO ok lt k with
    | none => if ok k = true then some k else none
    | some b => if ok k = true ∧ lt k b = true then some k else some b
def enc5 (r : Option Nat) : Int32 := match r with
  | none => -5
  | some q => nI q
def nearK (V : VT) (p : Nat) : Nat → Option Nat := bestO (fun q => !decide (q = p)) (fun q b => !decide (wayF V p b ≤ wayF V p q))
def farK (V : VT) (p : Nat) (x : Int32) : Nat → Option Nat := bestO (fun q => !decide (q = p) && !decide (x < wayF V p q)) (fun q b => !decide (wayF V p q ≤ wayF V p b))
def hopeK (V : VT) (p : Nat) : Nat → Option Nat := bestO (fun q => !decide (q = p)) (fun q b => !decide (V 4 q ≤ V 4 b))
def targetF (E : EV) (V : VT) (p : Nat) : Option Nat :=
  if V 1 p = nI 2 ∨ V 1 p = nI 5 then (match farK V p (reachF E V p) (vP V) with
    | none => nearK V p (vP V)
    | some q => some q) else if V 1 p = nI 3 ∨ V 1 p = nI 6 then hopeK V p (vP V) else nearK V p (vP V)
def factsF (V : VT) (p : Nat) : Nat → Int32 := fun i => match i with
  | 0 => nI p
  | 1 => V 1 p
  | 2 => V 3 p
  | 3 => V 4 p
  | 4 => V 0 8 / nI 10
  | 5 => rem_ (V 0 9) (nI 10)
  | _ => 0
def rainF (E : EV) (V : VT) (p : Nat) : Int32 := E.2.2 (factsF V p)
def carryF (E : EV) (V : VT) (p q : Nat) : Int32 × VT :=
  if reachF E V p < wayF V p q then
    (if V 4 p ≤ 0 then (nI 2, vU V 0 10 (nI p))
     else (nI 1, vU (vU (vU V 4 p (V 4 p - nI 1)) 5 p (V 5 p + nI 1)) 0 8 (mn (nI 999) (V 0 8 + E.2.1))))
  else (nI 0, vU (vU V 0 8 (mx (nI 0) (mn (nI 999) (V 0 8 + rainF E V p)))) 0 7 (nI q))
def endF (V : VT) : Bool := decide (V 0 10 ≠ -5)
def moveF (E : EV) (V : VT) : Int32 × VT :=
  if endF V = true ∨ vP V < 2 then (-3, V) else
    let c := carryF E V (vW V) ((targetF E V (vW V)).getD 0)
    (c.1, vU c.2 0 9 (c.2 0 9 + nI 1))
def goF (E : EV) : Nat → VT → VT
  | 0, V => V
  | n + 1, V => goF E n (moveF E V).2
/-- behind how many steps it is at the end, fuel n, b gone -/
def outF (E : EV) : Nat → Nat → VT → Nat
  | 0, b, _ => b
  | n + 1, b, V => if endF V = true then b else outF E n (b + 1) (moveF E V).2
/-- what holds of a street; steps and told at most B -/
def WF (B : Nat) (V : VT) : Prop :=
  V 0 6 = nI (vP V) ∧ vP V ≤ 6 ∧ (V 0 7 = nI (vW V) ∧ (vW V < vP V ∨ (vP V = 0 ∧ vW V = 0))) ∧ (∃ n, n ≤ 999 ∧ V 0 8 = nI n) ∧ (∃ n, n ≤ B ∧ V 0 9 = nI n) ∧ (V 0 10 = -5 ∨ ∃ q, q < vP V ∧ V 0 10 = nI q) ∧
  (∀ p, p < 6 → (∃ n, n ≤ 6 ∧ V 1 p = nI n) ∧ (∃ n, n ≤ 9 ∧ V 2 p = nI n) ∧ (∃ n, n ≤ 19 ∧ V 3 p = nI n) ∧ (∃ n, n ≤ 9 ∧ V 4 p = nI n) ∧ (∃ n, n ≤ B ∧ V 5 p = nI n)) ∧ (∀ i, i < 24 → ∃ n, n ≤ 9 ∧ V 6 i = nI n) ∧ B ≤ 1000000
def EW (E : EV) : Prop := (∃ k, k ≤ 99 ∧ E.1 = nI k) ∧ ∃ k, k ≤ 99 ∧ E.2.1 = nI k
/-- a street's cells -/
def St (h : hp_T) (o : Nat) : Prop := ck h o 0 5 ∧ (h_r h o 0 = some (o + 1) ∧ h_r h o 1 = some (o + 2) ∧ h_r h o 2 = some (o + 3) ∧ h_r h o 3 = some (o + 4) ∧ h_r h o 4 = some (o + 5) ∧ h_r h o 5 = some (o + 6)) ∧ (ck h (o + 1) 1 6 ∧ ck h (o + 2) 1 6 ∧ ck h (o + 3) 1 6 ∧ ck h (o + 4) 1 6 ∧ ck h (o + 5) 1 6 ∧ ck h (o + 6) 1 24)
section SSt
variable {h : hp_T} {o : Nat}
theorem St.c0 (S : St h o) : ck h o 0 5 := S.1
theorem St.r0 (S : St h o) : h_r h o 0 = some (o + 1) := S.2.1.1
theorem St.r1 (S : St h o) : h_r h o 1 = some (o + 2) := S.2.1.2.1
theorem St.r2 (S : St h o) : h_r h o 2 = some (o + 3) := S.2.1.2.2.1
theorem St.r3 (S : St h o) : h_r h o 3 = some (o + 4) := S.2.1.2.2.2.1
theorem St.r4 (S : St h o) : h_r h o 4 = some (o + 5) := S.2.1.2.2.2.2.1
theorem St.r5 (S : St h o) : h_r h o 5 = some (o + 6) := S.2.1.2.2.2.2.2
theorem St.a1 (S : St h o) : ck h (o + 1) 1 6 := S.2.2.1
theorem St.a2 (S : St h o) : ck h (o + 2) 1 6 := S.2.2.2.1
theorem St.a3 (S : St h o) : ck h (o + 3) 1 6 := S.2.2.2.2.1
theorem St.a4 (S : St h o) : ck h (o + 4) 1 6 := S.2.2.2.2.2.1
theorem St.a5 (S : St h o) : ck h (o + 5) 1 6 := S.2.2.2.2.2.2.1
theorem St.a6 (S : St h o) : ck h (o + 6) 1 24 := S.2.2.2.2.2.2.2
end SSt
def b2 (b : Bool) : Int32 := match b with
  | true => nI 1
  | false => nI 0
theorem b2_z {b : Bool} : b2 b = 0 ↔ b = false := by cases b <;> decide
theorem b2_n {b : Bool} : ¬ b2 b = 0 ↔ b = true := by cases b <;> decide
theorem b2_nar (b : Bool) : narrow .boolean (.int (b2 b)) = .int (b2 b) := by cases b <;> rfl
def hasF (x P : Int32) : Bool := !decide (x < 0) && !decide (P ≤ x)
theorem nI_ne5 {k : Nat} (h : k < 1000) : ¬ nI k = -5 := by
  intro e
  have e2 := congrArg Int32.toInt e
  rw [nI_toInt (by omega)] at e2
  have : (-5 : Int32).toInt = -5 := by decide
  omega
theorem bestO_lt {ok : Nat → Bool} {lt : Nat → Nat → Bool} : ∀ {k b : Nat}, bestO ok lt k = some b → b < k := by
  intro k
  induction k with
  | zero => intro b h; cases h
  | succ k ih =>
    intro b h
    unfold bestO at h
    split at h
    · split at h
      · cases h; omega
      · cases h
    · rename_i b0 hb
      split at h
      · cases h; omega
      · cases h
        exact Nat.lt_succ_of_lt (ih hb)
theorem bestO_n {ok : Nat → Bool} {lt : Nat → Nat → Bool} {k : Nat} (h : bestO ok lt k = none) : bestO ok lt (k + 1) = if ok k = true then some k else none := by
  rw [bestO, h]
theorem bestO_s {ok : Nat → Bool} {lt : Nat → Nat → Bool} {k b : Nat} (h : bestO ok lt k = some b) : bestO ok lt (k + 1) = if ok k = true ∧ lt k b = true then some k else some b := by
  rw [bestO, h]
/-- one code of an evening: the bits held, the rain together -/
def rstep (f : Nat → Int32) (c : Nat) (x : Int32 × Int32) : Int32 × Int32 :=
  match c / 65536 with
  | 0 => (x.1 <<< (nI 1 &&& 31) ||| b2 (!decide (nI (c % 256) ≤ f (c / 256 % 256))), x.2)
  | 1 => (x.1 <<< (nI 1 &&& 31) ||| b2 (decide (f (c / 256 % 256) = nI (c % 256))), x.2)
  | 2 => (x.1 <<< (nI 1 &&& 31) ||| b2 (!decide (f (c / 256 % 256) ≤ nI (c % 256))), x.2)
  | 3 => (x.1 >>> (nI 1 &&& 31) &&& (x.1 ||| -2), x.2)
  | 4 => (x.1 >>> (nI 1 &&& 31) ||| (x.1 &&& nI 1), x.2)
  | 5 => (x.1 ^^^ nI 1, x.2)
  | 6 => (nI 0, x.2 + x.1 * nI (c % 256))
  | _ => (nI 0, x.2 - x.1 * nI (c % 256))
def rloop (cs : Nat → Int32) (f : Nat → Int32) : Nat → Int32 × Int32
  | 0 => (nI 0, nI 0)
  | k + 1 => rstep f (cs k).toNatClampNeg (rloop cs f k)
def rainC (n : Nat) (cs : Nat → Int32) (f : Nat → Int32) : Int32 := (rloop cs f n).2
def okC (n : Nat) (cs : Nat → Int32) : Prop := ∀ i, i < n → ∃ s l v : Nat, s ≤ 7 ∧ l ≤ 5 ∧ v ≤ 99 ∧ cs i = nI (s * 65536 + l * 256 + v)
/-- an evening's cells: none stands, or the object e with its codes c -/
def evC (h : hp_T) (M : Mem) (r : Option Nat) (E : EV) : Prop :=
  (r = none ∧ E = E0) ∨ ∃ e c n : Nat, r = some e ∧ ck h e 0 1 ∧ h_r h e 0 = some c ∧ ck h c 1 n ∧ n ≤ 100 ∧ okC n (M c) ∧ E = (M e 1, M e 2, rainC n (M c))
theorem mU_eq {M : Mem} {a : Nat} {f : Nat → Int32} : mU M a f a = f := if_pos rfl
theorem mU_ne {M : Mem} {a b : Nat} {f : Nat → Int32} (h : b ≠ a) : mU M a f b = M b := if_neg h
theorem Sv_rf {M : Mem} {o f k : Nat} {x : Int32} (hf : f ≤ 6) : Sv (mU M (o + f) (upd (M (o + f)) k x)) o = vU (Sv M o) f k x := by
  funext g i
  unfold Sv vU
  by_cases hg : g ≤ 6
  · simp only [if_pos hg]
    by_cases e : g = f
    · subst e
      rw [mU_eq]
      by_cases e2 : i = k
      · simp [upd, e2]
      · simp [upd, e2]
    · rw [mU_ne (by omega), if_neg (fun z => e z.1)]
  · simp only [if_neg hg]
    rw [if_neg (fun z => by omega)]
theorem Sv_r0 {M : Mem} {o k : Nat} {x : Int32} : Sv (mU M o (upd (M o) k x)) o = vU (Sv M o) 0 k x := Sv_rf (f := 0) (by omega)
theorem Sv_out {M : Mem} {o a : Nat} {g : Nat → Int32} (h : a < o ∨ o + 6 < a) : Sv (mU M a g) o = Sv M o := by
  funext f i
  unfold Sv
  by_cases hf : f ≤ 6
  · rw [if_pos hf, if_pos hf, mU_ne (by omega)]
  · rw [if_neg hf, if_neg hf]
theorem Sv_same {M M1 : Mem} {o : Nat} (h : ∀ f, f ≤ 6 → M1 (o + f) = M (o + f)) : Sv M1 o = Sv M o := by
  funext f i
  unfold Sv
  by_cases hf : f ≤ 6
  · rw [if_pos hf, if_pos hf, h f hf]
  · rw [if_neg hf, if_neg hf]
/-- behind a method of a street: its view, and the rest as it was -/
def pS (M : Mem) (o : Nat) (V : VT) (M1 : Mem) : Prop := Sv M1 o = V ∧ ∀ b, (b < o ∨ o + 6 < b) → M1 b = M b
theorem pS.tr {M M1 M2 : Mem} {o : Nat} {V V2 : VT} (a : pS M o V M1) (b : pS M1 o V2 M2) : pS M o V2 M2 := ⟨b.1, fun q hq => (b.2 q hq).trans (a.2 q hq)⟩
theorem pS.rf {M : Mem} {o : Nat} : pS M o (Sv M o) M := ⟨rfl, fun _ _ => rfl⟩
theorem pS.u0 {M M1 : Mem} {o k : Nat} {V : VT} {x : Int32} (a : pS M o V M1) : pS M o (vU V 0 k x) (mU M1 o (upd (M1 o) k x)) := ⟨by rw [Sv_r0, a.1], fun b hb => by rw [mU_ne (by omega)]; exact a.2 b hb⟩
theorem pS.uf {M M1 : Mem} {o f k : Nat} {V : VT} {x : Int32} (hf : f ≤ 6) (a : pS M o V M1) : pS M o (vU V f k x) (mU M1 (o + f) (upd (M1 (o + f)) k x)) := ⟨by rw [Sv_rf hf, a.1], fun b hb => by rw [mU_ne (by omega)]; exact a.2 b hb⟩
/-- what stays of an evening while a street moves -/
theorem evC.kept {h : hp_T} {M M1 : Mem} {r : Option Nat} {E : EV} (a : evC h M r E) (hk : ∀ e, r = some e → M1 e = M e) (hc : ∀ e c, r = some e → h_r h e 0 = some c → M1 c = M c) : evC h M1 r E := by
  rcases a with a | ⟨e, c, n, h1, h2, h3, h4, h5, h6, h7⟩
  · exact Or.inl a
  · refine Or.inr ⟨e, c, n, h1, h2, h3, h4, h5, ?_, ?_⟩
    · rw [hc e c h1 h3]; exact h6
    · rw [hc e c h1 h3, hk e h1]; exact h7
