/-! where both begin -/
theorem non_s {α : Type} {P : Prop} {x : α} (e : (none : Option α) = some x) : P := by cases e
def h00 : hp_T := ((23, 0), (fun _ => (0, 0)), (fun _ _ => 0), (fun _ _ => 0), fun _ _ => none)
def KK : List CD := [] ++ [((0, 7), (fun _ => 0), rLp 24)] ++ kLp 24 ++ [((0, 8), fMo, rMo 81)] ++ kMo
def V0 : VT := vU (fun _ _ => 0) 0 10 (-5)
def T0 : TT := (fillI (fun _ => 0) 6 (-1), (fun _ => 0), fun _ _ => 0)
def sg0 : SG := ((V0, none, [], [], []), none, [], (0, fun _ => 0), [], T0)
theorem KK_l : KK.length = 100 := by decide +kernel
theorem KK_k : ∀ q ∈ csK, 23 ≤ q.1 ∧ q.1 < 123 ∧ (KK.getD (q.1 - 23) d0c).1 = (q.2.1, q.2.2) := by decide +kernel
theorem KK_r : ∀ q ∈ csR, 23 ≤ q.1 ∧ q.1 < 123 ∧ (KK.getD (q.1 - 23) d0c).2.2 q.2.1 = some q.2.2 := by decide +kernel
section S72
variable {h : hp_T} {z : Nat} {f : Nat → Int32} {R : Nat → Option Nat}
theorem zi_23 (B : Bs h00 0 z KK f R h) : h_i h 23 = fun _ => 0 := (B.2.2.1 0 (Nat.le_of_ble_eq_true rfl)).2.1
theorem zi_24 (B : Bs h00 0 z KK f R h) : h_i h 24 = fun _ => 0 := (B.2.2.1 1 (Nat.le_of_ble_eq_true rfl)).2.1
theorem zi_25 (B : Bs h00 0 z KK f R h) : h_i h 25 = fSt := (B.2.2.1 2 (Nat.le_of_ble_eq_true rfl)).2.1
theorem zi_26 (B : Bs h00 0 z KK f R h) : h_i h 26 = fun _ => 0 := (B.2.2.1 3 (Nat.le_of_ble_eq_true rfl)).2.1
theorem zi_27 (B : Bs h00 0 z KK f R h) : h_i h 27 = fun _ => 0 := (B.2.2.1 4 (Nat.le_of_ble_eq_true rfl)).2.1
theorem zi_28 (B : Bs h00 0 z KK f R h) : h_i h 28 = fun _ => 0 := (B.2.2.1 5 (Nat.le_of_ble_eq_true rfl)).2.1
theorem zi_29 (B : Bs h00 0 z KK f R h) : h_i h 29 = fun _ => 0 := (B.2.2.1 6 (Nat.le_of_ble_eq_true rfl)).2.1
theorem zi_30 (B : Bs h00 0 z KK f R h) : h_i h 30 = fun _ => 0 := (B.2.2.1 7 (Nat.le_of_ble_eq_true rfl)).2.1
theorem zi_31 (B : Bs h00 0 z KK f R h) : h_i h 31 = fun _ => 0 := (B.2.2.1 8 (Nat.le_of_ble_eq_true rfl)).2.1
theorem zi_32 (B : Bs h00 0 z KK f R h) : h_i h 32 = fun _ => 0 := (B.2.2.1 9 (Nat.le_of_ble_eq_true rfl)).2.1
theorem zi_33 (B : Bs h00 0 z KK f R h) : h_i h 33 = fun _ => 0 := (B.2.2.1 10 (Nat.le_of_ble_eq_true rfl)).2.1
theorem zi_34 (B : Bs h00 0 z KK f R h) : h_i h 34 = fun _ => 0 := (B.2.2.1 11 (Nat.le_of_ble_eq_true rfl)).2.1
theorem zi_35 (B : Bs h00 0 z KK f R h) : h_i h 35 = fun _ => 0 := (B.2.2.1 12 (Nat.le_of_ble_eq_true rfl)).2.1
theorem zi_36 (B : Bs h00 0 z KK f R h) : h_i h 36 = fun _ => 0 := (B.2.2.1 13 (Nat.le_of_ble_eq_true rfl)).2.1
theorem zi_37 (B : Bs h00 0 z KK f R h) : h_i h 37 = fun _ => 0 := (B.2.2.1 14 (Nat.le_of_ble_eq_true rfl)).2.1
theorem zi_38 (B : Bs h00 0 z KK f R h) : h_i h 38 = fun _ => 0 := (B.2.2.1 15 (Nat.le_of_ble_eq_true rfl)).2.1
theorem zi_39 (B : Bs h00 0 z KK f R h) : h_i h 39 = fun _ => 0 := (B.2.2.1 16 (Nat.le_of_ble_eq_true rfl)).2.1
theorem zi_40 (B : Bs h00 0 z KK f R h) : h_i h 40 = fun _ => 0 := (B.2.2.1 17 (Nat.le_of_ble_eq_true rfl)).2.1
theorem zi_41 (B : Bs h00 0 z KK f R h) : h_i h 41 = fun _ => 0 := (B.2.2.1 18 (Nat.le_of_ble_eq_true rfl)).2.1
theorem zi_42 (B : Bs h00 0 z KK f R h) : h_i h 42 = fSt := (B.2.2.1 19 (Nat.le_of_ble_eq_true rfl)).2.1
theorem zi_43 (B : Bs h00 0 z KK f R h) : h_i h 43 = fun _ => 0 := (B.2.2.1 20 (Nat.le_of_ble_eq_true rfl)).2.1
theorem zi_44 (B : Bs h00 0 z KK f R h) : h_i h 44 = fun _ => 0 := (B.2.2.1 21 (Nat.le_of_ble_eq_true rfl)).2.1
theorem zi_45 (B : Bs h00 0 z KK f R h) : h_i h 45 = fun _ => 0 := (B.2.2.1 22 (Nat.le_of_ble_eq_true rfl)).2.1
theorem zi_46 (B : Bs h00 0 z KK f R h) : h_i h 46 = fun _ => 0 := (B.2.2.1 23 (Nat.le_of_ble_eq_true rfl)).2.1
theorem zi_47 (B : Bs h00 0 z KK f R h) : h_i h 47 = fun _ => 0 := (B.2.2.1 24 (Nat.le_of_ble_eq_true rfl)).2.1
theorem zi_48 (B : Bs h00 0 z KK f R h) : h_i h 48 = fun _ => 0 := (B.2.2.1 25 (Nat.le_of_ble_eq_true rfl)).2.1
theorem zi_49 (B : Bs h00 0 z KK f R h) : h_i h 49 = fun _ => 0 := (B.2.2.1 26 (Nat.le_of_ble_eq_true rfl)).2.1
theorem zi_50 (B : Bs h00 0 z KK f R h) : h_i h 50 = fun _ => 0 := (B.2.2.1 27 (Nat.le_of_ble_eq_true rfl)).2.1
theorem zi_51 (B : Bs h00 0 z KK f R h) : h_i h 51 = fun _ => 0 := (B.2.2.1 28 (Nat.le_of_ble_eq_true rfl)).2.1
theorem zi_52 (B : Bs h00 0 z KK f R h) : h_i h 52 = fun _ => 0 := (B.2.2.1 29 (Nat.le_of_ble_eq_true rfl)).2.1
theorem zi_53 (B : Bs h00 0 z KK f R h) : h_i h 53 = fun _ => 0 := (B.2.2.1 30 (Nat.le_of_ble_eq_true rfl)).2.1
theorem zi_54 (B : Bs h00 0 z KK f R h) : h_i h 54 = fun _ => 0 := (B.2.2.1 31 (Nat.le_of_ble_eq_true rfl)).2.1
theorem zi_55 (B : Bs h00 0 z KK f R h) : h_i h 55 = fun _ => 0 := (B.2.2.1 32 (Nat.le_of_ble_eq_true rfl)).2.1
theorem zi_56 (B : Bs h00 0 z KK f R h) : h_i h 56 = fun _ => 0 := (B.2.2.1 33 (Nat.le_of_ble_eq_true rfl)).2.1
theorem zi_57 (B : Bs h00 0 z KK f R h) : h_i h 57 = fun _ => 0 := (B.2.2.1 34 (Nat.le_of_ble_eq_true rfl)).2.1
theorem zi_58 (B : Bs h00 0 z KK f R h) : h_i h 58 = fSt := (B.2.2.1 35 (Nat.le_of_ble_eq_true rfl)).2.1
theorem zi_59 (B : Bs h00 0 z KK f R h) : h_i h 59 = fun _ => 0 := (B.2.2.1 36 (Nat.le_of_ble_eq_true rfl)).2.1
theorem zi_60 (B : Bs h00 0 z KK f R h) : h_i h 60 = fun _ => 0 := (B.2.2.1 37 (Nat.le_of_ble_eq_true rfl)).2.1
theorem zi_61 (B : Bs h00 0 z KK f R h) : h_i h 61 = fun _ => 0 := (B.2.2.1 38 (Nat.le_of_ble_eq_true rfl)).2.1
theorem zi_62 (B : Bs h00 0 z KK f R h) : h_i h 62 = fun _ => 0 := (B.2.2.1 39 (Nat.le_of_ble_eq_true rfl)).2.1
theorem zi_63 (B : Bs h00 0 z KK f R h) : h_i h 63 = fun _ => 0 := (B.2.2.1 40 (Nat.le_of_ble_eq_true rfl)).2.1
theorem zi_64 (B : Bs h00 0 z KK f R h) : h_i h 64 = fun _ => 0 := (B.2.2.1 41 (Nat.le_of_ble_eq_true rfl)).2.1
theorem zi_65 (B : Bs h00 0 z KK f R h) : h_i h 65 = fun _ => 0 := (B.2.2.1 42 (Nat.le_of_ble_eq_true rfl)).2.1
theorem zi_66 (B : Bs h00 0 z KK f R h) : h_i h 66 = fun _ => 0 := (B.2.2.1 43 (Nat.le_of_ble_eq_true rfl)).2.1
theorem zi_67 (B : Bs h00 0 z KK f R h) : h_i h 67 = fun _ => 0 := (B.2.2.1 44 (Nat.le_of_ble_eq_true rfl)).2.1
theorem zi_68 (B : Bs h00 0 z KK f R h) : h_i h 68 = fun _ => 0 := (B.2.2.1 45 (Nat.le_of_ble_eq_true rfl)).2.1
theorem zi_69 (B : Bs h00 0 z KK f R h) : h_i h 69 = fun _ => 0 := (B.2.2.1 46 (Nat.le_of_ble_eq_true rfl)).2.1
theorem zi_70 (B : Bs h00 0 z KK f R h) : h_i h 70 = fun _ => 0 := (B.2.2.1 47 (Nat.le_of_ble_eq_true rfl)).2.1
theorem zi_71 (B : Bs h00 0 z KK f R h) : h_i h 71 = fillI (fun _ => 0) 6 (-1) := (B.2.2.1 48 (Nat.le_of_ble_eq_true rfl)).2.1
theorem zi_72 (B : Bs h00 0 z KK f R h) : h_i h 72 = fun _ => 0 := (B.2.2.1 49 (Nat.le_of_ble_eq_true rfl)).2.1
theorem zi_73 (B : Bs h00 0 z KK f R h) : h_i h 73 = fun _ => 0 := (B.2.2.1 50 (Nat.le_of_ble_eq_true rfl)).2.1
theorem zi_74 (B : Bs h00 0 z KK f R h) : h_i h 74 = fun _ => 0 := (B.2.2.1 51 (Nat.le_of_ble_eq_true rfl)).2.1
theorem zi_75 (B : Bs h00 0 z KK f R h) : h_i h 75 = fun _ => 0 := (B.2.2.1 52 (Nat.le_of_ble_eq_true rfl)).2.1
theorem zi_76 (B : Bs h00 0 z KK f R h) : h_i h 76 = fun _ => 0 := (B.2.2.1 53 (Nat.le_of_ble_eq_true rfl)).2.1
theorem zi_77 (B : Bs h00 0 z KK f R h) : h_i h 77 = fun _ => 0 := (B.2.2.1 54 (Nat.le_of_ble_eq_true rfl)).2.1
theorem zi_78 (B : Bs h00 0 z KK f R h) : h_i h 78 = fun _ => 0 := (B.2.2.1 55 (Nat.le_of_ble_eq_true rfl)).2.1
theorem zi_79 (B : Bs h00 0 z KK f R h) : h_i h 79 = fun _ => 0 := (B.2.2.1 56 (Nat.le_of_ble_eq_true rfl)).2.1
theorem zi_80 (B : Bs h00 0 z KK f R h) : h_i h 80 = fMo := (B.2.2.1 57 (Nat.le_of_ble_eq_true rfl)).2.1
theorem zi_81 (B : Bs h00 0 z KK f R h) : h_i h 81 = (fun _ => 0) := (B.2.2.1 58 (Nat.le_of_ble_eq_true rfl)).2.1
theorem zi_82 (B : Bs h00 0 z KK f R h) : h_i h 82 = (fun _ => 0) := (B.2.2.1 59 (Nat.le_of_ble_eq_true rfl)).2.1
theorem zi_83 (B : Bs h00 0 z KK f R h) : h_i h 83 = (fun _ => 0) := (B.2.2.1 60 (Nat.le_of_ble_eq_true rfl)).2.1
theorem zi_84 (B : Bs h00 0 z KK f R h) : h_i h 84 = (fun _ => 0) := (B.2.2.1 61 (Nat.le_of_ble_eq_true rfl)).2.1
theorem zi_85 (B : Bs h00 0 z KK f R h) : h_i h 85 = (fun _ => 0) := (B.2.2.1 62 (Nat.le_of_ble_eq_true rfl)).2.1
theorem zi_86 (B : Bs h00 0 z KK f R h) : h_i h 86 = (fun _ => 0) := (B.2.2.1 63 (Nat.le_of_ble_eq_true rfl)).2.1
theorem zi_87 (B : Bs h00 0 z KK f R h) : h_i h 87 = (fun _ => 0) := (B.2.2.1 64 (Nat.le_of_ble_eq_true rfl)).2.1
theorem zi_88 (B : Bs h00 0 z KK f R h) : h_i h 88 = (fun _ => 0) := (B.2.2.1 65 (Nat.le_of_ble_eq_true rfl)).2.1
theorem zi_89 (B : Bs h00 0 z KK f R h) : h_i h 89 = (fun _ => 0) := (B.2.2.1 66 (Nat.le_of_ble_eq_true rfl)).2.1
theorem zi_90 (B : Bs h00 0 z KK f R h) : h_i h 90 = (fun _ => 0) := (B.2.2.1 67 (Nat.le_of_ble_eq_true rfl)).2.1
theorem zi_91 (B : Bs h00 0 z KK f R h) : h_i h 91 = (fun _ => 0) := (B.2.2.1 68 (Nat.le_of_ble_eq_true rfl)).2.1
theorem zi_92 (B : Bs h00 0 z KK f R h) : h_i h 92 = (fun _ => 0) := (B.2.2.1 69 (Nat.le_of_ble_eq_true rfl)).2.1
theorem zi_93 (B : Bs h00 0 z KK f R h) : h_i h 93 = (fun _ => 0) := (B.2.2.1 70 (Nat.le_of_ble_eq_true rfl)).2.1
theorem zi_94 (B : Bs h00 0 z KK f R h) : h_i h 94 = (fun _ => 0) := (B.2.2.1 71 (Nat.le_of_ble_eq_true rfl)).2.1
theorem zi_95 (B : Bs h00 0 z KK f R h) : h_i h 95 = (upd (upd (upd (upd (upd (upd (upd (upd (upd (upd (upd (upd (upd (upd (fun _ => 0) 0 (nI 114)) 1 (nI 97)) 2 (nI 105)) 3 (nI 110)) 4 (nI 100)) 5 (nI 114)) 6 (nI 121)) 7 (nI 102)) 8 (nI 97)) 9 (nI 114)) 10 (nI 99)) 11 (nI 111)) 12 (nI 115)) 13 (nI 116)) := (B.2.2.1 72 (Nat.le_of_ble_eq_true rfl)).2.1
theorem zi_96 (B : Bs h00 0 z KK f R h) : h_i h 96 = (fun _ => 0) := (B.2.2.1 73 (Nat.le_of_ble_eq_true rfl)).2.1
theorem zi_97 (B : Bs h00 0 z KK f R h) : h_i h 97 = (fun _ => 0) := (B.2.2.1 74 (Nat.le_of_ble_eq_true rfl)).2.1
theorem zi_98 (B : Bs h00 0 z KK f R h) : h_i h 98 = (fun _ => 0) := (B.2.2.1 75 (Nat.le_of_ble_eq_true rfl)).2.1
theorem zi_99 (B : Bs h00 0 z KK f R h) : h_i h 99 = (fun _ => 0) := (B.2.2.1 76 (Nat.le_of_ble_eq_true rfl)).2.1
theorem zi_100 (B : Bs h00 0 z KK f R h) : h_i h 100 = (fun _ => 0) := (B.2.2.1 77 (Nat.le_of_ble_eq_true rfl)).2.1
theorem zi_101 (B : Bs h00 0 z KK f R h) : h_i h 101 = (fun _ => 0) := (B.2.2.1 78 (Nat.le_of_ble_eq_true rfl)).2.1
theorem zi_102 (B : Bs h00 0 z KK f R h) : h_i h 102 = (fun _ => 0) := (B.2.2.1 79 (Nat.le_of_ble_eq_true rfl)).2.1
theorem zi_103 (B : Bs h00 0 z KK f R h) : h_i h 103 = (fun _ => 0) := (B.2.2.1 80 (Nat.le_of_ble_eq_true rfl)).2.1
theorem zi_104 (B : Bs h00 0 z KK f R h) : h_i h 104 = (fun _ => 0) := (B.2.2.1 81 (Nat.le_of_ble_eq_true rfl)).2.1
theorem zi_105 (B : Bs h00 0 z KK f R h) : h_i h 105 = (fun _ => 0) := (B.2.2.1 82 (Nat.le_of_ble_eq_true rfl)).2.1
theorem zi_106 (B : Bs h00 0 z KK f R h) : h_i h 106 = (fun _ => 0) := (B.2.2.1 83 (Nat.le_of_ble_eq_true rfl)).2.1
theorem zi_107 (B : Bs h00 0 z KK f R h) : h_i h 107 = (fun _ => 0) := (B.2.2.1 84 (Nat.le_of_ble_eq_true rfl)).2.1
theorem zi_108 (B : Bs h00 0 z KK f R h) : h_i h 108 = (fun _ => 0) := (B.2.2.1 85 (Nat.le_of_ble_eq_true rfl)).2.1
theorem zi_109 (B : Bs h00 0 z KK f R h) : h_i h 109 = (fun _ => 0) := (B.2.2.1 86 (Nat.le_of_ble_eq_true rfl)).2.1
theorem zi_110 (B : Bs h00 0 z KK f R h) : h_i h 110 = (fun _ => 0) := (B.2.2.1 87 (Nat.le_of_ble_eq_true rfl)).2.1
theorem zi_111 (B : Bs h00 0 z KK f R h) : h_i h 111 = (fun _ => 0) := (B.2.2.1 88 (Nat.le_of_ble_eq_true rfl)).2.1
theorem zi_112 (B : Bs h00 0 z KK f R h) : h_i h 112 = (fun _ => 0) := (B.2.2.1 89 (Nat.le_of_ble_eq_true rfl)).2.1
theorem zi_113 (B : Bs h00 0 z KK f R h) : h_i h 113 = (fun _ => 0) := (B.2.2.1 90 (Nat.le_of_ble_eq_true rfl)).2.1
theorem zi_114 (B : Bs h00 0 z KK f R h) : h_i h 114 = (fun _ => 0) := (B.2.2.1 91 (Nat.le_of_ble_eq_true rfl)).2.1
theorem zi_115 (B : Bs h00 0 z KK f R h) : h_i h 115 = (fun _ => 0) := (B.2.2.1 92 (Nat.le_of_ble_eq_true rfl)).2.1
theorem zi_116 (B : Bs h00 0 z KK f R h) : h_i h 116 = (fun _ => 0) := (B.2.2.1 93 (Nat.le_of_ble_eq_true rfl)).2.1
theorem zi_117 (B : Bs h00 0 z KK f R h) : h_i h 117 = (fun _ => 0) := (B.2.2.1 94 (Nat.le_of_ble_eq_true rfl)).2.1
theorem zi_118 (B : Bs h00 0 z KK f R h) : h_i h 118 = (fun _ => 0) := (B.2.2.1 95 (Nat.le_of_ble_eq_true rfl)).2.1
theorem zi_119 (B : Bs h00 0 z KK f R h) : h_i h 119 = (upd (upd (upd (upd (upd (upd (fun _ => 0) 0 (-1)) 1 (-1)) 2 (-1)) 3 (-1)) 4 (-1)) 5 (-1)) := (B.2.2.1 96 (Nat.le_of_ble_eq_true rfl)).2.1
theorem zi_120 (B : Bs h00 0 z KK f R h) : h_i h 120 = (fun _ => 0) := (B.2.2.1 97 (Nat.le_of_ble_eq_true rfl)).2.1
theorem zi_121 (B : Bs h00 0 z KK f R h) : h_i h 121 = (fun _ => 0) := (B.2.2.1 98 (Nat.le_of_ble_eq_true rfl)).2.1
theorem zi_122 (B : Bs h00 0 z KK f R h) : h_i h 122 = (fun _ => 0) := (B.2.2.1 99 (Nat.le_of_ble_eq_true rfl)).2.1
theorem zl_74 (B : Bs h00 0 z KK f R h) : h_l h 74 = fun _ => 0 := (B.2.2.1 51 (Nat.le_of_ble_eq_true rfl)).2.2.1
theorem zl_75 (B : Bs h00 0 z KK f R h) : h_l h 75 = fun _ => 0 := (B.2.2.1 52 (Nat.le_of_ble_eq_true rfl)).2.2.1
theorem zl_76 (B : Bs h00 0 z KK f R h) : h_l h 76 = fun _ => 0 := (B.2.2.1 53 (Nat.le_of_ble_eq_true rfl)).2.2.1
theorem zl_77 (B : Bs h00 0 z KK f R h) : h_l h 77 = fun _ => 0 := (B.2.2.1 54 (Nat.le_of_ble_eq_true rfl)).2.2.1
theorem zl_78 (B : Bs h00 0 z KK f R h) : h_l h 78 = fun _ => 0 := (B.2.2.1 55 (Nat.le_of_ble_eq_true rfl)).2.2.1
theorem zl_79 (B : Bs h00 0 z KK f R h) : h_l h 79 = fun _ => 0 := (B.2.2.1 56 (Nat.le_of_ble_eq_true rfl)).2.2.1
theorem zl_121 (B : Bs h00 0 z KK f R h) : h_l h 121 = fun _ => 0 := (B.2.2.1 98 (Nat.le_of_ble_eq_true rfl)).2.2.1
theorem z_CS (B : Bs h00 0 z KK f R h) : CS h := by
  have hn : h_n h = 23 + KK.length := B.1.1
  rw [KK_l] at hn
  refine ⟨fun q hq => ?_, fun q hq => ?_⟩
  · obtain ⟨a1, a2, a3⟩ := KK_k q hq
    have b1 := (B.2.2.1 (q.1 - 23) (by rw [KK_l]; omega)).1
    rw [show h_n h00 + (q.1 - 23) = q.1 by show 23 + (q.1 - 23) = q.1; omega, a3] at b1
    exact ⟨b1, a1, by omega⟩
  · obtain ⟨a1, a2, a3⟩ := KK_r q hq
    have b1 := (B.2.2.1 (q.1 - 23) (by rw [KK_l]; omega)).2.2.2
    rw [show h_n h00 + (q.1 - 23) = q.1 by show 23 + (q.1 - 23) = q.1; omega] at b1
    rw [b1]
    exact a3
theorem sv_0 {M : Mem} {o : Nat} (a0 : M o = fSt) (a : ∀ k, 1 ≤ k → k ≤ 6 → M (o + k) = fun _ => 0) : Sv M o = V0 := by
  funext k i
  unfold Sv V0 vU
  by_cases hk : k ≤ 6
  · rw [if_pos hk]
    by_cases h0 : k = 0
    · subst h0
      rw [Nat.add_zero, a0]
      unfold fSt upd
      by_cases hi : i = 10
      · rw [if_pos hi, if_pos ⟨rfl, hi⟩]
      · rw [if_neg hi, if_neg (fun q => hi q.2)]
    · rw [a k (by omega) hk, if_neg (fun q => h0 q.1)]
  · rw [if_neg hk, if_neg (fun q => by omega)]
theorem v0_0 {k i : Nat} (h1 : ¬ (k = 0 ∧ i = 10)) : V0 k i = 0 := if_neg h1
theorem v0_p : vP V0 = 0 := by decide
theorem v0_z : ZV V0 := ⟨fun i hi => v0_0 (by omega), fun k i h1 h2 h3 => v0_0 (by omega), fun i hi => v0_0 (by omega)⟩
theorem v0_n : NZ V0 := fun p _ => ⟨v0_0 (by omega), fun j _ => v0_0 (by omega)⟩
theorem v0_w : WF 0 V0 := by
  have n0 : (0 : Int32) = nI 0 := rfl
  refine ⟨by rw [v0_p, v0_0 (by omega)]; rfl, by rw [v0_p]; omega, ⟨by decide, Or.inr ⟨v0_p, by decide⟩⟩, ⟨0, by omega, v0_0 (by omega)⟩, ⟨0, by omega, v0_0 (by omega)⟩, Or.inl vU_eq, fun p hp => ⟨⟨0, by omega, v0_0 (by omega)⟩, ⟨0, by omega, v0_0 (by omega)⟩, ⟨0, by omega, v0_0 (by omega)⟩, ⟨0, by omega, v0_0 (by omega)⟩, ⟨0, by omega, v0_0 (by omega)⟩⟩, fun i hi => ⟨0, by omega, v0_0 (by omega)⟩, by omega⟩
theorem t0_w : WT T0 := by
  intro t ht
  refine ⟨Or.inl ⟨if_pos ht, rfl⟩, 0, by omega, rfl⟩
theorem z_OK : OK 0 sg0 := by
  refine ⟨⟨⟨v0_w, v0_z, v0_n⟩, fun k e => non_s (show (none : Option Nat) = some k from e), ⟨Nat.zero_le _, fun i hi => absurd hi (Nat.not_lt_zero _)⟩, ⟨Nat.zero_le _, fun i hi => absurd hi (Nat.not_lt_zero _)⟩, ⟨Nat.zero_le _, fun i hi => absurd hi (Nat.not_lt_zero _)⟩⟩, fun s e => non_s (show (none : Option SCN) = some s from e), ⟨Nat.zero_le _, fun k hk => absurd hk (Nat.not_lt_zero _)⟩, ⟨Nat.zero_le _, fun i hi => absurd hi (Nat.not_lt_zero _)⟩, Nat.zero_le _, t0_w⟩
theorem no_len {P : Nat → Prop} : ∀ i, i < ([] : PL).length → P i := fun i hi => absurd hi (Nat.not_lt_zero _)
theorem z_prv {M : Mem} {b : Nat} (a : M b = fun _ => 0) : PrV M b [] := ⟨by rw [a]; rfl, no_len⟩
theorem z_gmv {M : Mem} {b : Nat} (a : M b = fun _ => 0) : GmV M b [] := ⟨by rw [a]; rfl, no_len⟩
theorem z_zp {M : Mem} {b n : Nat} (a1 : M (b + 1) = fun _ => 0) (a2 : M (b + 2) = fun _ => 0) : ZP M b n := fun i _ => by rw [a1, a2]; exact ⟨rfl, rfl⟩
theorem six_of {P : Nat → Prop} (h1 : P 1) (h2 : P 2) (h3 : P 3) (h4 : P 4) (h5 : P 5) (h6 : P 6) : ∀ k, 1 ≤ k → k ≤ 6 → P k := by
  intro k a b
  rcases (show k = 1 ∨ k = 2 ∨ k = 3 ∨ k = 4 ∨ k = 5 ∨ k = 6 by omega) with e | e | e | e | e | e <;> subst e <;> assumption
theorem z_v (B : Bs h00 0 z KK f R h) : Sv (h_i h) 25 = V0 ∧ Sv (h_i h) 42 = V0 ∧ Sv (h_i h) 58 = V0 :=
  ⟨sv_0 (zi_25 B) (six_of (zi_26 B) (zi_27 B) (zi_28 B) (zi_29 B) (zi_30 B) (zi_31 B)), sv_0 (zi_42 B) (six_of (zi_43 B) (zi_44 B) (zi_45 B) (zi_46 B) (zi_47 B) (zi_48 B)), sv_0 (zi_58 B) (six_of (zi_59 B) (zi_60 B) (zi_61 B) (zi_62 B) (zi_63 B) (zi_64 B))⟩
theorem z_C (B : Bs h00 0 z KK f R h) : CRep sg0 h (h_i h) := by
  have hn : h_n h = 23 + KK.length := B.1.1
  rw [KK_l] at hn
  obtain ⟨v1, v2, v3⟩ := z_v B
  have r11 : h_r h 25 11 = none := B.re (i := 2) (k := 11) (r := none) (Nat.le_of_ble_eq_true rfl) rfl
  refine ⟨z_CS B, ⟨v1, r11, z_prv (zi_32 B), z_gmv (zi_35 B), z_prv (zi_38 B)⟩, ⟨by rw [v1]; exact v0_z, z_zp (zi_33 B) (zi_34 B), z_zp (zi_36 B) (zi_37 B), z_zp (zi_39 B) (zi_40 B)⟩, ⟨fun _ => by rw [zi_23 B]; rfl, fun s e => non_s (show (none : Option SCN) = some s from e)⟩, ⟨by rw [v2]; exact v0_z, z_zp (zi_50 B) (zi_51 B), z_zp (zi_53 B) (zi_54 B), z_zp (zi_56 B) (zi_57 B)⟩, by rw [v3]; exact v0_z, ⟨by rw [zi_23 B]; rfl, hn, fun k hk => absurd hk (Nat.not_lt_zero _)⟩, ⟨by rw [zi_65 B]; rfl, Nat.zero_le _, fun i hi => absurd hi (Nat.not_lt_zero _)⟩, ⟨by rw [zi_68 B]; rfl, fun i hi => absurd hi (Nat.not_lt_zero _)⟩, ?_⟩
  show (h_i h 71, h_i h 72, fun (u i : Nat) => if u < 6 ∧ i < 60 then h_l h (74 + u) i else 0) = T0
  rw [zi_71 B, zi_72 B]
  have e : (fun (u i : Nat) => if u < 6 ∧ i < 60 then h_l h (74 + u) i else 0) = fun (_ _ : Nat) => (0 : Int64) := by
    funext u i
    by_cases c : u < 6 ∧ i < 60
    · rw [if_pos c]
      rcases (show u = 0 ∨ u = 1 ∨ u = 2 ∨ u = 3 ∨ u = 4 ∨ u = 5 by omega) with e | e | e | e | e | e <;> subst e
      · exact congrFun (zl_74 B) i
      · exact congrFun (zl_75 B) i
      · exact congrFun (zl_76 B) i
      · exact congrFun (zl_77 B) i
      · exact congrFun (zl_78 B) i
      · exact congrFun (zl_79 B) i
    · rw [if_neg c]
  rw [e]
  rfl
theorem z_let : ∀ i, i < 14 → (upd (upd (upd (upd (upd (upd (upd (upd (upd (upd (upd (upd (upd (upd (fun _ => 0) 0 (nI 114)) 1 (nI 97)) 2 (nI 105)) 3 (nI 110)) 4 (nI 100)) 5 (nI 114)) 6 (nI 121)) 7 (nI 102)) 8 (nI 97)) 9 (nI 114)) 10 (nI 99)) 11 (nI 111)) 12 (nI 115)) 13 (nI 116)) i = letL.getD i 0 := by decide
theorem z_six : (upd (upd (upd (upd (upd (upd (fun _ => 0) 0 (-1)) 1 (-1)) 2 (-1)) 3 (-1)) 4 (-1)) 5 (-1)) = fillI (fun _ => 0) 6 (-1) := by
  funext i
  unfold fillI
  by_cases c : i < 6
  · rw [if_pos c]
    rcases (show i = 0 ∨ i = 1 ∨ i = 2 ∨ i = 3 ∨ i = 4 ∨ i = 5 by omega) with e | e | e | e | e | e <;> subst e <;> rfl
  · rw [if_neg c]
    unfold upd
    rw [if_neg (by omega), if_neg (by omega), if_neg (by omega), if_neg (by omega), if_neg (by omega), if_neg (by omega)]
theorem z_pvm {M : Mem} {c a b : Nat} (e : M 80 c = nI 0) : PvM M c a b [] := ⟨e, no_len⟩
theorem z_M (B : Bs h00 0 z KK f R h) : MRep sg0 (h_i h) (h_l h) := by
  have m80 := zi_80 B
  have v6 : ∀ k, 1 ≤ k → k ≤ 6 → h_i h (80 + k) = V0 k := by
    intro k h1 h2
    have e : V0 k = fun _ => 0 := by
      funext i
      exact v0_0 (by omega)
    rw [e]
    exact six_of (P := fun k => h_i h (80 + k) = fun _ => 0) (zi_81 B) (zi_82 B) (zi_83 B) (zi_84 B) (zi_85 B) (zi_86 B) k h1 h2
  refine ⟨⟨⟨by rw [m80]; rfl, by rw [m80]; rfl, by rw [m80]; rfl, by rw [m80]; rfl, by rw [m80]; rfl, v6⟩, by rw [m80]; rfl⟩, ⟨by rw [m80]; rfl, z_pvm (by rw [m80]; rfl), z_pvm (by rw [m80]; rfl), z_pvm (by rw [m80]; rfl)⟩, ⟨by rw [m80]; rfl, fun k hk => absurd hk (Nat.not_lt_zero _)⟩, ⟨⟨fun _ => by rw [m80]; rfl, fun s e => non_s (show (none : Option SCN) = some s from e)⟩, fun k i h1 h2 h3 => ?_, fun i hi => by rw [zi_111 B]⟩, ⟨⟨by rw [m80]; rfl, fun i hi => absurd hi (Nat.not_lt_zero _)⟩, fun i hi => by rw [zi_95 B]; exact z_let i hi⟩, ⟨by rw [m80]; rfl, fun i hi => absurd hi (Nat.not_lt_zero _)⟩, ?_⟩
  · rcases (show k = 1 ∨ k = 2 ∨ k = 3 ∨ k = 4 ∨ k = 5 by omega) with e | e | e | e | e <;> subst e
    · rw [zi_106 B]
    · rw [zi_107 B]
    · rw [zi_108 B]
    · rw [zi_109 B]
    · rw [zi_110 B]
  · show (h_i h 119, h_i h 120, fun (u i : Nat) => if u < 6 ∧ i < 60 then h_l h 121 (60 * u + i) else 0) = T0
    rw [zi_119 B, zi_120 B, zl_121 B, z_six]
    have e : (fun (u i : Nat) => if u < 6 ∧ i < 60 then (fun _ => (0 : Int64)) (60 * u + i) else 0) = fun (_ _ : Nat) => (0 : Int64) := by
      funext u i
      split <;> rfl
    rw [e]
    rfl
theorem z_I (B : Bs h00 0 2852 KK f R h) : Inv 0 2852 h := by
  have hn : h_n h = 23 + KK.length := B.1.1
  have hs : h_s h = 0 + 2852 := B.1.2
  rw [KK_l] at hn
  exact ⟨sg0, z_C B, z_M B, z_OK, by omega⟩
end S72
