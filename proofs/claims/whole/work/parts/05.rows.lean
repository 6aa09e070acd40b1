section RW
variable {w : wc_T} {κ : cx_T} {d own nL : Nat} {cc : ByteArray} {rt : Option FieldType} {Φ : Option Value → hp_T → Prop} {pc : Nat} {L : List (Option Value)} {st : List Value} {h : hp_T}
theorem CX.ex (X : CX w κ d own cc nL rt Φ) : κ.1.tables.exec = Jvm.exec := X.1.1
theorem CX.cb (X : CX w κ d own cc nL rt Φ) : (k_c κ).code = cc := X.1.2.1
theorem CX.ml (X : CX w κ d own cc nL rt Φ) : (k_c κ).maxLocals = nL := X.1.2.2.1
theorem CX.ts (X : CX w κ d own cc nL rt Φ) : ∀ x ∈ gd_W, x.before (k_a κ) (k_s κ) = true := X.2.1.1
theorem CX.tg (X : CX w κ d own cc nL rt Φ) {x : Cond} (h : x ∈ lw_tbl) (hg : goodWord x = true) : x.before (k_a κ) (k_s κ) = true := X.2.1.1 x (gd_in h hg)
theorem CX.ow (X : CX w κ d own cc nL rt Φ) : (k_s κ).vm.findClass (cn own) = some (k_m κ).cls := X.2.1.2.1
theorem CX.wd (X : CX w κ d own cc nL rt Φ) : Wd w (k_s κ) (k_s κ).heap := X.2.1.2.2.1
theorem CX.K (X : CX w κ d own cc nL rt Φ) : va_K w.2.2.2.1 vwCl (w_ty w) (k_s κ) := X.2.1.2.2.1.1
theorem CX.fr (X : CX w κ d own cc nL rt Φ) : d ≤ (k_R κ).frames ∧ 64 * d ≤ (k_R κ).locals := X.2.2.1
theorem CX.cap (X : CX w κ d own cc nL rt Φ) : (k_1 κ).1 ≤ (k_0 κ).1 + (k_R κ).cells ∧ (k_1 κ).2 ≤ (k_0 κ).2 + (k_R κ).slots := X.2.2.2.1
theorem CX.sz (X : CX w κ d own cc nL rt Φ) : (k_s κ).heap.size = w.1 + ((k_0 κ).1 - 23) ∧ 23 ≤ (k_0 κ).1 := X.2.2.2.2.1
theorem cv_refs (w : wc_T) (k : Nat) : (∃ a : Nat, cv w (.ref k) = .ref a) ∨ cv w (.ref k) = .null := by
  simp only [cv]
  split
  · cases w.2.2.1 with
    | none => exact Or.inr rfl
    | some a => exact Or.inl ⟨a, rfl⟩
  · exact Or.inl ⟨_, rfl⟩
-- constants
theorem r_iconst (X : CX w κ d own cc nL rt Φ) {n : Int} {v : Int32} (dc : decode cc pc = .ok (.iconst n, 1)) (hv : Int32.ofInt n = v) (kk : GG w κ (pc + 1) L (.int v :: st) h) : GG w κ pc L (st) h :=
  fun hg H locs ls hR hS hL => lv_iconst X.ex X.cb dc hv (kk hg H locs ls hR hS hL)
theorem r_bipush (X : CX w κ d own cc nL rt Φ) {n : Int} {v : Int32} (dc : decode cc pc = .ok (.bipush n, 2)) (hv : (Int8.ofInt n).toInt32 = v) (kk : GG w κ (pc + 2) L (.int v :: st) h) : GG w κ pc L (st) h :=
  fun hg H locs ls hR hS hL => lv_bipush X.ex X.cb dc hv (kk hg H locs ls hR hS hL)
theorem r_sipush (X : CX w κ d own cc nL rt Φ) {n : Int} {v : Int32} (dc : decode cc pc = .ok (.sipush n, 3)) (hv : (Int16.ofInt n).toInt32 = v) (kk : GG w κ (pc + 3) L (.int v :: st) h) : GG w κ pc L (st) h :=
  fun hg H locs ls hR hS hL => lv_sipush X.ex X.cb dc hv (kk hg H locs ls hR hS hL)
theorem r_lconst (X : CX w κ d own cc nL rt Φ) {n : Fin 2} {v : Int64} (dc : decode cc pc = .ok (.lconst n, 1)) (hv : Int64.ofNat (n : Nat) = v) (kk : GG w κ (pc + 1) L (.long v :: st) h) : GG w κ pc L (st) h :=
  fun hg H locs ls hR hS hL => lv_lconst X.ex X.cb dc hv (kk hg H locs ls hR hS hL)
theorem r_null (X : CX w κ d own cc nL rt Φ)  (dc : decode cc pc = .ok (.aconst_null, 1))  (kk : GG w κ (pc + 1) L (.null :: st) h) : GG w κ pc L (st) h :=
  fun hg H locs ls hR hS hL => lv_null X.ex X.cb dc  (kk hg H locs ls hR hS hL)
theorem r_ldc (X : CX w κ d own cc nL rt Φ) {idx : Nat} {v : Int32} (dc : decode cc pc = .ok (.ldc idx, 2)) (hw : Cond.constant (cn own) idx v ∈ lw_tbl) (kk : GG w κ (pc + 2) L (.int v :: st) h) : GG w κ pc L st h :=
  fun hg H locs ls hR hS hL => lv_ldc X.ex X.cb X.ow (X.tg hw rfl) dc (kk hg H locs ls hR hS hL)
theorem r_ldc2 (X : CX w κ d own cc nL rt Φ) {idx : Nat} {v : Int64} (dc : decode cc pc = .ok (.ldc2_w idx, 3)) (hw : Cond.constantLong (cn own) idx v ∈ lw_tbl) (kk : GG w κ (pc + 3) L (.long v :: st) h) : GG w κ pc L st h :=
  fun hg H locs ls hR hS hL => lv_ldc2 X.ex X.cb X.ow (X.tg hw rfl) dc (kk hg H locs ls hR hS hL)
-- locals
theorem r_iload_n (X : CX w κ d own cc nL rt Φ) {k : Fin 4} {x : Int32} (dc : decode cc pc = .ok (.iload_n k, 1)) (hl : L[(k : Nat)]? = some (some (.int x))) (kk : GG w κ (pc + 1) L (.int x :: st) h) : GG w κ pc L st h :=
  fun hg H locs ls hR hS hL => lv_iload_n X.ex X.cb dc rfl (hL.2.2 _ _ hl) (kk hg H locs ls hR hS hL)
theorem r_iload (X : CX w κ d own cc nL rt Φ) {i : Nat} {x : Int32} (dc : decode cc pc = .ok (.iload i, 2)) (hl : L[i]? = some (some (.int x))) (kk : GG w κ (pc + 2) L (.int x :: st) h) : GG w κ pc L st h :=
  fun hg H locs ls hR hS hL => lv_iload X.ex X.cb dc (hL.2.2 _ _ hl) (kk hg H locs ls hR hS hL)
theorem r_lload_n (X : CX w κ d own cc nL rt Φ) {k : Fin 4} {x : Int64} (dc : decode cc pc = .ok (.lload_n k, 1)) (hl : L[(k : Nat)]? = some (some (.long x))) (kk : GG w κ (pc + 1) L (.long x :: st) h) : GG w κ pc L st h :=
  fun hg H locs ls hR hS hL => lv_lload_n X.ex X.cb dc rfl (hL.2.2 _ _ hl) (kk hg H locs ls hR hS hL)
theorem r_lload (X : CX w κ d own cc nL rt Φ) {i : Nat} {x : Int64} (dc : decode cc pc = .ok (.lload i, 2)) (hl : L[i]? = some (some (.long x))) (kk : GG w κ (pc + 2) L (.long x :: st) h) : GG w κ pc L st h :=
  fun hg H locs ls hR hS hL => lv_lload X.ex X.cb dc (hL.2.2 _ _ hl) (kk hg H locs ls hR hS hL)
theorem r_aload_n (X : CX w κ d own cc nL rt Φ) {k : Fin 4} {o : Nat} (dc : decode cc pc = .ok (.aload_n k, 1)) (hl : L[(k : Nat)]? = some (some (.ref o))) (kk : GG w κ (pc + 1) L (.ref o :: st) h) : GG w κ pc L st h := by
  intro hg H locs ls hR hS hL
  have k1 := kk hg H locs ls hR hS hL
  have h1 := hL.2.2 _ _ hl
  rw [List.map_cons] at k1
  rcases cv_refs w o with ⟨a, e⟩ | e
  · rw [e] at h1 k1
    exact lv_aload_n X.ex X.cb dc rfl h1 k1
  · rw [e] at h1 k1
    exact lv_aload_nN X.ex X.cb dc rfl h1 k1
theorem r_aload_nN (X : CX w κ d own cc nL rt Φ) {k : Fin 4} (dc : decode cc pc = .ok (.aload_n k, 1)) (hl : L[(k : Nat)]? = some (some (.null))) (kk : GG w κ (pc + 1) L (.null :: st) h) : GG w κ pc L st h :=
  fun hg H locs ls hR hS hL => lv_aload_nN X.ex X.cb dc rfl (hL.2.2 _ _ hl) (kk hg H locs ls hR hS hL)
theorem r_aload (X : CX w κ d own cc nL rt Φ) {i : Nat} {o : Nat} (dc : decode cc pc = .ok (.aload i, 2)) (hl : L[i]? = some (some (.ref o))) (kk : GG w κ (pc + 2) L (.ref o :: st) h) : GG w κ pc L st h := by
  intro hg H locs ls hR hS hL
  have k1 := kk hg H locs ls hR hS hL
  have h1 := hL.2.2 _ _ hl
  rw [List.map_cons] at k1
  rcases cv_refs w o with ⟨a, e⟩ | e
  · rw [e] at h1 k1
    exact lv_aload X.ex X.cb dc h1 k1
  · rw [e] at h1 k1
    exact lv_aloadN X.ex X.cb dc h1 k1
theorem r_aloadN (X : CX w κ d own cc nL rt Φ) {i : Nat} (dc : decode cc pc = .ok (.aload i, 2)) (hl : L[i]? = some (some (.null))) (kk : GG w κ (pc + 2) L (.null :: st) h) : GG w κ pc L st h :=
  fun hg H locs ls hR hS hL => lv_aloadN X.ex X.cb dc (hL.2.2 _ _ hl) (kk hg H locs ls hR hS hL)
theorem r_istore_n (X : CX w κ d own cc nL rt Φ) {k : Fin 4} {x : Int32} (dc : decode cc pc = .ok (.istore_n k, 1)) (hn : (k : Nat) < L.length) (kk : GG w κ (pc + 1) (st1 L (k : Nat) (.int x)) st h) : GG w κ pc L (.int x :: st) h :=
  fun hg H locs ls hR hS hL => lv_istore_n (x := x) X.ex X.cb dc rfl (LR.has hL) hn rfl (fun ls1 h1 => kk hg H locs ls1 hR hS (LR_st1 (v := .int x) hn h1))
theorem r_istore (X : CX w κ d own cc nL rt Φ) {i : Nat} {x : Int32} (dc : decode cc pc = .ok (.istore i, 2)) (hn : i < L.length) (kk : GG w κ (pc + 2) (st1 L i (.int x)) st h) : GG w κ pc L (.int x :: st) h :=
  fun hg H locs ls hR hS hL => lv_istore (x := x) X.ex X.cb dc (LR.has hL) hn rfl (fun ls1 h1 => kk hg H locs ls1 hR hS (LR_st1 (v := .int x) hn h1))
theorem r_lstore_n (X : CX w κ d own cc nL rt Φ) {k : Fin 4} {x : Int64} (dc : decode cc pc = .ok (.lstore_n k, 1)) (hn : (k : Nat) + 1 < L.length) (kk : GG w κ (pc + 1) (st2 L (k : Nat) (.long x)) st h) : GG w κ pc L (.long x :: st) h :=
  fun hg H locs ls hR hS hL => lv_lstore_n (x := x) X.ex X.cb dc rfl (LR.has hL) hn rfl (fun ls1 h1 => kk hg H locs ls1 hR hS (LR_st2 (v := .long x) hn h1))
theorem r_lstore (X : CX w κ d own cc nL rt Φ) {i : Nat} {x : Int64} (dc : decode cc pc = .ok (.lstore i, 2)) (hn : i + 1 < L.length) (kk : GG w κ (pc + 2) (st2 L i (.long x)) st h) : GG w κ pc L (.long x :: st) h :=
  fun hg H locs ls hR hS hL => lv_lstore (x := x) X.ex X.cb dc (LR.has hL) hn rfl (fun ls1 h1 => kk hg H locs ls1 hR hS (LR_st2 (v := .long x) hn h1))
theorem r_astore_n (X : CX w κ d own cc nL rt Φ) {k : Fin 4} {o : Nat} (dc : decode cc pc = .ok (.astore_n k, 1)) (hn : (k : Nat) < L.length) (kk : GG w κ (pc + 1) (st1 L (k : Nat) (.ref o)) st h) : GG w κ pc L (.ref o :: st) h := by
  intro hg H locs ls hR hS hL
  rw [List.map_cons]
  have k1 := fun ls1 h1 => kk hg H locs ls1 hR hS (LR_st1 (v := .ref o) hn h1)
  rcases cv_refs w o with ⟨a, e⟩ | e
  · rw [e] at k1 ⊢
    exact lv_astore_n X.ex X.cb dc rfl (LR.has hL) hn rfl k1
  · rw [e] at k1 ⊢
    exact lv_astore_nN X.ex X.cb dc rfl (LR.has hL) hn rfl k1
theorem r_astore_nN (X : CX w κ d own cc nL rt Φ) {k : Fin 4} (dc : decode cc pc = .ok (.astore_n k, 1)) (hn : (k : Nat) < L.length) (kk : GG w κ (pc + 1) (st1 L (k : Nat) .null) st h) : GG w κ pc L (.null :: st) h :=
  fun hg H locs ls hR hS hL => lv_astore_nN X.ex X.cb dc rfl (LR.has hL) hn rfl (fun ls1 h1 => kk hg H locs ls1 hR hS (LR_st1 (v := .null) hn h1))
theorem r_astore (X : CX w κ d own cc nL rt Φ) {i : Nat} {o : Nat} (dc : decode cc pc = .ok (.astore i, 2)) (hn : i < L.length) (kk : GG w κ (pc + 2) (st1 L i (.ref o)) st h) : GG w κ pc L (.ref o :: st) h := by
  intro hg H locs ls hR hS hL
  rw [List.map_cons]
  have k1 := fun ls1 h1 => kk hg H locs ls1 hR hS (LR_st1 (v := .ref o) hn h1)
  rcases cv_refs w o with ⟨a, e⟩ | e
  · rw [e] at k1 ⊢
    exact lv_astore X.ex X.cb dc (LR.has hL) hn rfl k1
  · rw [e] at k1 ⊢
    exact lv_astoreN X.ex X.cb dc (LR.has hL) hn rfl k1
theorem r_astoreN (X : CX w κ d own cc nL rt Φ) {i : Nat} (dc : decode cc pc = .ok (.astore i, 2)) (hn : i < L.length) (kk : GG w κ (pc + 2) (st1 L i .null) st h) : GG w κ pc L (.null :: st) h :=
  fun hg H locs ls hR hS hL => lv_astoreN X.ex X.cb dc (LR.has hL) hn rfl (fun ls1 h1 => kk hg H locs ls1 hR hS (LR_st1 (v := .null) hn h1))
theorem r_iinc (X : CX w κ d own cc nL rt Φ) {i : Nat} {n : Int} {x v : Int32} (dc : decode cc pc = .ok (.iinc i n, 3)) (hl : L[i]? = some (some (.int x))) (hv : x + Int32.ofInt n = v) (kk : GG w κ (pc + 3) (st1 L i (.int v)) st h) : GG w κ pc L st h := by
  intro hg H locs ls hR hS hL
  obtain ⟨k, hk⟩ := List.getElem?_of_mem (al_mem (w := w) hl)
  have hn : i < L.length := (List.getElem?_eq_some_iff.mp hl).1
  exact lv_iinc X.ex X.cb dc (LR.has hL) hk hv hn rfl (fun ls1 h1 => kk hg H locs ls1 hR hS (LR_st1 (v := .int v) hn h1))
-- arithmetic
theorem r_iadd (X : CX w κ d own cc nL rt Φ) {x y : Int32} (dc : decode cc pc = .ok (.iadd, 1))  (kk : GG w κ (pc + 1) L (.int (x + y) :: st) h) : GG w κ pc L (.int y :: .int x :: st) h :=
  fun hg H locs ls hR hS hL => lv_iadd X.ex X.cb dc  (kk hg H locs ls hR hS hL)
theorem r_isub (X : CX w κ d own cc nL rt Φ) {x y : Int32} (dc : decode cc pc = .ok (.isub, 1))  (kk : GG w κ (pc + 1) L (.int (x - y) :: st) h) : GG w κ pc L (.int y :: .int x :: st) h :=
  fun hg H locs ls hR hS hL => lv_isub X.ex X.cb dc  (kk hg H locs ls hR hS hL)
theorem r_imul (X : CX w κ d own cc nL rt Φ) {x y : Int32} (dc : decode cc pc = .ok (.imul, 1))  (kk : GG w κ (pc + 1) L (.int (x * y) :: st) h) : GG w κ pc L (.int y :: .int x :: st) h :=
  fun hg H locs ls hR hS hL => lv_imul X.ex X.cb dc  (kk hg H locs ls hR hS hL)
theorem r_iand (X : CX w κ d own cc nL rt Φ) {x y : Int32} (dc : decode cc pc = .ok (.iand, 1))  (kk : GG w κ (pc + 1) L (.int (x &&& y) :: st) h) : GG w κ pc L (.int y :: .int x :: st) h :=
  fun hg H locs ls hR hS hL => lv_iand X.ex X.cb dc  (kk hg H locs ls hR hS hL)
theorem r_ior (X : CX w κ d own cc nL rt Φ) {x y : Int32} (dc : decode cc pc = .ok (.ior, 1))  (kk : GG w κ (pc + 1) L (.int (x ||| y) :: st) h) : GG w κ pc L (.int y :: .int x :: st) h :=
  fun hg H locs ls hR hS hL => lv_ior X.ex X.cb dc  (kk hg H locs ls hR hS hL)
theorem r_ixor (X : CX w κ d own cc nL rt Φ) {x y : Int32} (dc : decode cc pc = .ok (.ixor, 1))  (kk : GG w κ (pc + 1) L (.int (x ^^^ y) :: st) h) : GG w κ pc L (.int y :: .int x :: st) h :=
  fun hg H locs ls hR hS hL => lv_ixor X.ex X.cb dc  (kk hg H locs ls hR hS hL)
theorem r_ishl (X : CX w κ d own cc nL rt Φ) {x y : Int32} (dc : decode cc pc = .ok (.ishl, 1)) (kk : GG w κ (pc + 1) L (.int (x <<< (y &&& 31)) :: st) h) : GG w κ pc L (.int y :: .int x :: st) h :=
  fun hg H locs ls hR hS hL => lv_ishl X.ex X.cb dc (kk hg H locs ls hR hS hL)
theorem r_ishr (X : CX w κ d own cc nL rt Φ) {x y : Int32} (dc : decode cc pc = .ok (.ishr, 1)) (kk : GG w κ (pc + 1) L (.int (x >>> (y &&& 31)) :: st) h) : GG w κ pc L (.int y :: .int x :: st) h :=
  fun hg H locs ls hR hS hL => lv_ishr X.ex X.cb dc (kk hg H locs ls hR hS hL)
theorem r_idiv (X : CX w κ d own cc nL rt Φ) {x y : Int32} (dc : decode cc pc = .ok (.idiv, 1)) (hne : ¬ y = 0) (kk : GG w κ (pc + 1) L (.int (x / y) :: st) h) : GG w κ pc L (.int y :: .int x :: st) h :=
  fun hg H locs ls hR hS hL => lv_idiv X.ex X.cb dc hne (kk hg H locs ls hR hS hL)
theorem r_irem (X : CX w κ d own cc nL rt Φ) {x y : Int32} (dc : decode cc pc = .ok (.irem, 1)) (hne : ¬ y = 0) (kk : GG w κ (pc + 1) L (.int (x - x / y * y) :: st) h) : GG w κ pc L (.int y :: .int x :: st) h :=
  fun hg H locs ls hR hS hL => lv_irem X.ex X.cb dc hne (kk hg H locs ls hR hS hL)
theorem r_ineg (X : CX w κ d own cc nL rt Φ) {x : Int32} (dc : decode cc pc = .ok (.ineg, 1))  (kk : GG w κ (pc + 1) L (.int (-x) :: st) h) : GG w κ pc L (.int x :: st) h :=
  fun hg H locs ls hR hS hL => lv_ineg X.ex X.cb dc  (kk hg H locs ls hR hS hL)
theorem r_land (X : CX w κ d own cc nL rt Φ) {x y : Int64} (dc : decode cc pc = .ok (.land, 1))  (kk : GG w κ (pc + 1) L (.long (x &&& y) :: st) h) : GG w κ pc L (.long y :: .long x :: st) h :=
  fun hg H locs ls hR hS hL => lv_land X.ex X.cb dc  (kk hg H locs ls hR hS hL)
theorem r_lor (X : CX w κ d own cc nL rt Φ) {x y : Int64} (dc : decode cc pc = .ok (.lor, 1))  (kk : GG w κ (pc + 1) L (.long (x ||| y) :: st) h) : GG w κ pc L (.long y :: .long x :: st) h :=
  fun hg H locs ls hR hS hL => lv_lor X.ex X.cb dc  (kk hg H locs ls hR hS hL)
theorem r_ladd (X : CX w κ d own cc nL rt Φ) {x y : Int64} (dc : decode cc pc = .ok (.ladd, 1))  (kk : GG w κ (pc + 1) L (.long (x + y) :: st) h) : GG w κ pc L (.long y :: .long x :: st) h :=
  fun hg H locs ls hR hS hL => lv_ladd X.ex X.cb dc  (kk hg H locs ls hR hS hL)
theorem r_lshl (X : CX w κ d own cc nL rt Φ) {x v : Int64} {y : Int32} (dc : decode cc pc = .ok (.lshl, 1)) (hv : x <<< (y.toInt64 &&& 63) = v) (kk : GG w κ (pc + 1) L (.long v :: st) h) : GG w κ pc L (.int y :: .long x :: st) h :=
  fun hg H locs ls hR hS hL => lv_lshl X.ex X.cb dc hv (kk hg H locs ls hR hS hL)
theorem r_i2l (X : CX w κ d own cc nL rt Φ) {x : Int32} {v : Int64} (dc : decode cc pc = .ok (.i2l, 1)) (hv : x.toInt64 = v) (kk : GG w κ (pc + 1) L (.long v :: st) h) : GG w κ pc L (.int x :: st) h :=
  fun hg H locs ls hR hS hL => lv_i2l X.ex X.cb dc hv (kk hg H locs ls hR hS hL)
theorem r_l2i (X : CX w κ d own cc nL rt Φ) {x : Int64} {v : Int32} (dc : decode cc pc = .ok (.l2i, 1)) (hv : x.toInt32 = v) (kk : GG w κ (pc + 1) L (.int v :: st) h) : GG w κ pc L (.long x :: st) h :=
  fun hg H locs ls hR hS hL => lv_l2i X.ex X.cb dc hv (kk hg H locs ls hR hS hL)
theorem r_i2b (X : CX w κ d own cc nL rt Φ) {x v : Int32} (dc : decode cc pc = .ok (.i2b, 1)) (hv : x.toInt8.toInt32 = v) (kk : GG w κ (pc + 1) L (.int v :: st) h) : GG w κ pc L (.int x :: st) h :=
  fun hg H locs ls hR hS hL => lv_i2b X.ex X.cb dc hv (kk hg H locs ls hR hS hL)
theorem r_i2s (X : CX w κ d own cc nL rt Φ) {x v : Int32} (dc : decode cc pc = .ok (.i2s, 1)) (hv : x.toInt16.toInt32 = v) (kk : GG w κ (pc + 1) L (.int v :: st) h) : GG w κ pc L (.int x :: st) h :=
  fun hg H locs ls hR hS hL => lv_i2s X.ex X.cb dc hv (kk hg H locs ls hR hS hL)
theorem r_i2c (X : CX w κ d own cc nL rt Φ) {x v : Int32} (dc : decode cc pc = .ok (.i2c, 1)) (hv : (x.toUInt32 % 65536).toInt32 = v) (kk : GG w κ (pc + 1) L (.int v :: st) h) : GG w κ pc L (.int x :: st) h :=
  fun hg H locs ls hR hS hL => lv_i2c X.ex X.cb dc hv (kk hg H locs ls hR hS hL)
theorem r_lcmp (X : CX w κ d own cc nL rt Φ) {x y : Int64} (dc : decode cc pc = .ok (.lcmp, 1)) (kk : GG w κ (pc + 1) L (.int (lg_cmp x y) :: st) h) : GG w κ pc L (.long y :: .long x :: st) h :=
  fun hg H locs ls hR hS hL => W.lcmp X.ex X.cb dc (kk hg H locs ls hR hS hL)
-- stack
theorem r_dup (X : CX w κ d own cc nL rt Φ) {v : Value} (dc : decode cc pc = .ok (.dup, 1)) (hc : v.category = 1) (kk : GG w κ (pc + 1) L (v :: v :: st) h) : GG w κ pc L (v :: st) h :=
  fun hg H locs ls hR hS hL => lv_dup X.ex X.cb dc ((cv_cat v).trans hc) (kk hg H locs ls hR hS hL)
theorem r_pop (X : CX w κ d own cc nL rt Φ) {v : Value} (dc : decode cc pc = .ok (.pop, 1)) (hc : v.category = 1) (kk : GG w κ (pc + 1) L st h) : GG w κ pc L (v :: st) h :=
  fun hg H locs ls hR hS hL => lv_pop X.ex X.cb dc ((cv_cat v).trans hc) (kk hg H locs ls hR hS hL)
theorem r_dup2 (X : CX w κ d own cc nL rt Φ) {a b : Value} (dc : decode cc pc = .ok (.dup2, 1)) (ha : a.category = 1) (hb : b.category = 1) (kk : GG w κ (pc + 1) L (a :: b :: a :: b :: st) h) : GG w κ pc L (a :: b :: st) h :=
  fun hg H locs ls hR hS hL => lv_dup2_11 X.ex X.cb dc ((cv_cat a).trans ha) ((cv_cat b).trans hb) (kk hg H locs ls hR hS hL)
-- branches
theorem r_if_eq (X : CX w κ d own cc nL rt Φ) {x : Int32} {off : Int} {tgt : Nat} (dc : decode cc pc = .ok (.ifCond .eq off, 3)) (ht : (pc : Int) + off = (tgt : Int)) (kt : x = 0 → GG w κ tgt L st h) (kf : ¬ x = 0 → GG w κ (pc + 3) L st h) : GG w κ pc L (.int x :: st) h :=
  fun hg H locs ls hR hS hL => lv_if_eq X.ex X.cb dc ht (fun q => kt q hg H locs ls hR hS hL) (fun q => kf q hg H locs ls hR hS hL)
theorem r_icmp_eq (X : CX w κ d own cc nL rt Φ) {x y : Int32} {off : Int} {tgt : Nat} (dc : decode cc pc = .ok (.if_icmp .eq off, 3)) (ht : (pc : Int) + off = (tgt : Int)) (kt : x = y → GG w κ tgt L st h) (kf : ¬ x = y → GG w κ (pc + 3) L st h) : GG w κ pc L (.int y :: .int x :: st) h :=
  fun hg H locs ls hR hS hL => lv_icmp_eq X.ex X.cb dc ht (fun q => kt q hg H locs ls hR hS hL) (fun q => kf q hg H locs ls hR hS hL)
theorem r_if_ne (X : CX w κ d own cc nL rt Φ) {x : Int32} {off : Int} {tgt : Nat} (dc : decode cc pc = .ok (.ifCond .ne off, 3)) (ht : (pc : Int) + off = (tgt : Int)) (kt : ¬ x = 0 → GG w κ tgt L st h) (kf : x = 0 → GG w κ (pc + 3) L st h) : GG w κ pc L (.int x :: st) h :=
  fun hg H locs ls hR hS hL => lv_if_ne X.ex X.cb dc ht (fun q => kt q hg H locs ls hR hS hL) (fun q => kf q hg H locs ls hR hS hL)
theorem r_icmp_ne (X : CX w κ d own cc nL rt Φ) {x y : Int32} {off : Int} {tgt : Nat} (dc : decode cc pc = .ok (.if_icmp .ne off, 3)) (ht : (pc : Int) + off = (tgt : Int)) (kt : ¬ x = y → GG w κ tgt L st h) (kf : x = y → GG w κ (pc + 3) L st h) : GG w κ pc L (.int y :: .int x :: st) h :=
  fun hg H locs ls hR hS hL => lv_icmp_ne X.ex X.cb dc ht (fun q => kt q hg H locs ls hR hS hL) (fun q => kf q hg H locs ls hR hS hL)
theorem r_if_lt (X : CX w κ d own cc nL rt Φ) {x : Int32} {off : Int} {tgt : Nat} (dc : decode cc pc = .ok (.ifCond .lt off, 3)) (ht : (pc : Int) + off = (tgt : Int)) (kt : x < 0 → GG w κ tgt L st h) (kf : ¬ x < 0 → GG w κ (pc + 3) L st h) : GG w κ pc L (.int x :: st) h :=
  fun hg H locs ls hR hS hL => lv_if_lt X.ex X.cb dc ht (fun q => kt q hg H locs ls hR hS hL) (fun q => kf q hg H locs ls hR hS hL)
theorem r_icmp_lt (X : CX w κ d own cc nL rt Φ) {x y : Int32} {off : Int} {tgt : Nat} (dc : decode cc pc = .ok (.if_icmp .lt off, 3)) (ht : (pc : Int) + off = (tgt : Int)) (kt : x < y → GG w κ tgt L st h) (kf : ¬ x < y → GG w κ (pc + 3) L st h) : GG w κ pc L (.int y :: .int x :: st) h :=
  fun hg H locs ls hR hS hL => lv_icmp_lt X.ex X.cb dc ht (fun q => kt q hg H locs ls hR hS hL) (fun q => kf q hg H locs ls hR hS hL)
theorem r_if_ge (X : CX w κ d own cc nL rt Φ) {x : Int32} {off : Int} {tgt : Nat} (dc : decode cc pc = .ok (.ifCond .ge off, 3)) (ht : (pc : Int) + off = (tgt : Int)) (kt : 0 ≤ x → GG w κ tgt L st h) (kf : ¬ 0 ≤ x → GG w κ (pc + 3) L st h) : GG w κ pc L (.int x :: st) h :=
  fun hg H locs ls hR hS hL => lv_if_ge X.ex X.cb dc ht (fun q => kt q hg H locs ls hR hS hL) (fun q => kf q hg H locs ls hR hS hL)
theorem r_icmp_ge (X : CX w κ d own cc nL rt Φ) {x y : Int32} {off : Int} {tgt : Nat} (dc : decode cc pc = .ok (.if_icmp .ge off, 3)) (ht : (pc : Int) + off = (tgt : Int)) (kt : y ≤ x → GG w κ tgt L st h) (kf : ¬ y ≤ x → GG w κ (pc + 3) L st h) : GG w κ pc L (.int y :: .int x :: st) h :=
  fun hg H locs ls hR hS hL => lv_icmp_ge X.ex X.cb dc ht (fun q => kt q hg H locs ls hR hS hL) (fun q => kf q hg H locs ls hR hS hL)
theorem r_if_gt (X : CX w κ d own cc nL rt Φ) {x : Int32} {off : Int} {tgt : Nat} (dc : decode cc pc = .ok (.ifCond .gt off, 3)) (ht : (pc : Int) + off = (tgt : Int)) (kt : 0 < x → GG w κ tgt L st h) (kf : ¬ 0 < x → GG w κ (pc + 3) L st h) : GG w κ pc L (.int x :: st) h :=
  fun hg H locs ls hR hS hL => lv_if_gt X.ex X.cb dc ht (fun q => kt q hg H locs ls hR hS hL) (fun q => kf q hg H locs ls hR hS hL)
theorem r_icmp_gt (X : CX w κ d own cc nL rt Φ) {x y : Int32} {off : Int} {tgt : Nat} (dc : decode cc pc = .ok (.if_icmp .gt off, 3)) (ht : (pc : Int) + off = (tgt : Int)) (kt : y < x → GG w κ tgt L st h) (kf : ¬ y < x → GG w κ (pc + 3) L st h) : GG w κ pc L (.int y :: .int x :: st) h :=
  fun hg H locs ls hR hS hL => lv_icmp_gt X.ex X.cb dc ht (fun q => kt q hg H locs ls hR hS hL) (fun q => kf q hg H locs ls hR hS hL)
theorem r_if_le (X : CX w κ d own cc nL rt Φ) {x : Int32} {off : Int} {tgt : Nat} (dc : decode cc pc = .ok (.ifCond .le off, 3)) (ht : (pc : Int) + off = (tgt : Int)) (kt : x ≤ 0 → GG w κ tgt L st h) (kf : ¬ x ≤ 0 → GG w κ (pc + 3) L st h) : GG w κ pc L (.int x :: st) h :=
  fun hg H locs ls hR hS hL => lv_if_le X.ex X.cb dc ht (fun q => kt q hg H locs ls hR hS hL) (fun q => kf q hg H locs ls hR hS hL)
theorem r_icmp_le (X : CX w κ d own cc nL rt Φ) {x y : Int32} {off : Int} {tgt : Nat} (dc : decode cc pc = .ok (.if_icmp .le off, 3)) (ht : (pc : Int) + off = (tgt : Int)) (kt : x ≤ y → GG w κ tgt L st h) (kf : ¬ x ≤ y → GG w κ (pc + 3) L st h) : GG w κ pc L (.int y :: .int x :: st) h :=
  fun hg H locs ls hR hS hL => lv_icmp_le X.ex X.cb dc ht (fun q => kt q hg H locs ls hR hS hL) (fun q => kf q hg H locs ls hR hS hL)
theorem r_goto (X : CX w κ d own cc nL rt Φ) {off : Int} {tgt : Nat} (dc : decode cc pc = .ok (.goto off, 3)) (ht : (pc : Int) + off = (tgt : Int)) (kk : GG w κ tgt L st h) : GG w κ pc L st h :=
  fun hg H locs ls hR hS hL => lv_goto X.ex X.cb dc ht (kk hg H locs ls hR hS hL)
theorem r_ifnonnull (X : CX w κ d own cc nL rt Φ) {o : Nat} {off : Int} {tgt : Nat} (dc : decode cc pc = .ok (.ifnonnull off, 3)) (ht : (pc : Int) + off = (tgt : Int)) (ho : 23 ≤ o) (kk : GG w κ tgt L st h) : GG w κ pc L (.ref o :: st) h := by
  intro hg H locs ls hR hS hL
  rw [List.map_cons, cv_ref ho]
  exact lv_ifnonnull X.ex X.cb dc ht (kk hg H locs ls hR hS hL)
theorem r_ifnonnullN (X : CX w κ d own cc nL rt Φ) {off : Int} (dc : decode cc pc = .ok (.ifnonnull off, 3)) (kk : GG w κ (pc + 3) L st h) : GG w κ pc L (.null :: st) h :=
  fun hg H locs ls hR hS hL => lv_ifnonnullN X.ex X.cb dc (kk hg H locs ls hR hS hL)
theorem r_tableIn (X : CX w κ d own cc nL rt Φ) {dflt lo hi : Int} {offs : Array Int} {len : Nat} {x : Int32} {off : Int} {tgt : Nat} (dc : decode cc pc = .ok (.tableswitch dflt lo hi offs, len)) (h1 : ¬ x.toInt < lo) (h2 : ¬ hi < x.toInt) (ho : offs[(x.toInt - lo).toNat]? = some off) (ht : (pc : Int) + off = (tgt : Int)) (kk : GG w κ tgt L st h) : GG w κ pc L (.int x :: st) h :=
  fun hg H locs ls hR hS hL => lv_tableIn X.ex X.cb dc h1 h2 ho ht (kk hg H locs ls hR hS hL)
theorem r_tableOut (X : CX w κ d own cc nL rt Φ) {dflt lo hi : Int} {offs : Array Int} {len : Nat} {x : Int32} {tgt : Nat} (dc : decode cc pc = .ok (.tableswitch dflt lo hi offs, len)) (h1 : x.toInt < lo ∨ hi < x.toInt) (ht : (pc : Int) + dflt = (tgt : Int)) (kk : GG w κ tgt L st h) : GG w κ pc L (.int x :: st) h :=
  fun hg H locs ls hR hS hL => lv_tableOut X.ex X.cb dc h1 ht (kk hg H locs ls hR hS hL)
theorem r_lookup (X : CX w κ d own cc nL rt Φ) {dflt : Int} {ps : Array (Int × Int)} {len : Nat} {x : Int32} {off : Int} {tgt : Nat} (dc : decode cc pc = .ok (.lookupswitch dflt ps, len)) (hp : (ps.toList.zip (ps.toList.drop 1)).all (fun (a, next) => a.1 < next.1) = true) (ho : Op.lookupswitch.offset ps.toList dflt x.toInt = off) (ht : (pc : Int) + off = (tgt : Int)) (kk : GG w κ tgt L st h) : GG w κ pc L (.int x :: st) h :=
  fun hg H locs ls hR hS hL => lv_lookup X.ex X.cb dc hp ho ht (kk hg H locs ls hR hS hL)
end RW
