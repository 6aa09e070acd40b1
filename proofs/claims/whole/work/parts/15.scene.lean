/-! one street becomes as another; rows of two numbers; a scene -/
def sev (h : hp_T) (t : Nat) (r : Option Nat) : hp_T := sR h t (va_up (h_r h t) 11 r)
theorem cpy_all {f g : Nat → Int32} {n : Nat} (h : ∀ i, n ≤ i → f i = g i) : va_cpy f g 0 0 n = f := by
  funext i
  unfold va_cpy
  by_cases c : i < n
  · rw [if_pos (by omega), Nat.sub_zero, Nat.zero_add]
  · rw [if_neg (by omega)]
    exact (h i (by omega)).symm
theorem va_cpy0 {f g : Nat → Int32} {n : Nat} (h : ∀ i, n ≤ i → g i = 0) (h2 : ∀ i, n ≤ i → f i = 0) : va_cpy f g 0 0 n = f := cpy_all (fun i hi => by rw [h i hi, h2 i hi])
theorem St.sev {h : hp_T} {o t : Nat} {r : Option Nat} (S : St h o) : St (sev h t r) o := by
  obtain ⟨a, ⟨b0, b1, b2, b3, b4, b5⟩, c⟩ := S
  refine ⟨a, ⟨?_, ?_, ?_, ?_, ?_, ?_⟩, c⟩
  all_goals
    by_cases e : o = t
    · subst e
      simp [h_r, _root_.Jvm.Pilot.CLastAtPumpLaw_law_r4897_fbdc39.sev, sR, va_up]
      assumption
    · simp [h_r, _root_.Jvm.Pilot.CLastAtPumpLaw_law_r4897_fbdc39.sev, sR, e]
      assumption
set_option maxRecDepth 10000 in
set_option maxHeartbeats 4000000 in
theorem e_become : ∀ (d : Nat) {h : hp_T} {M : Mem} {t s : Nat} {r : Option Nat} (S : St h t) (R : St h s) (hr : h_r h s 11 = r) (hd : t + 6 < s ∨ s + 6 < t) (h19 : ∀ e, r = some e → 23 ≤ e) (hz : ZV (Sv M t)) (hz2 : ZV (Sv M s)), Ex (d + 1) nX5_become [.ref t, .ref s] (wi h M) 0 0 (fun v2 h2 => ∃ M1 : Mem, v2 = none ∧ h2 = wi (sev h t r) M1 ∧ Sv M1 t = Sv M s ∧ ∀ b, (b < t ∨ t + 6 < b) → M1 b = M b) := by
  intro d h M t s r S R hr hd h19 hz hz2
  refine Ex.of mm_X5_become (Nat.le_of_ble_eq_true rfl) fun w κ X hk hnm => ?_
  cases r with
  | none =>
    refine r_aload_n (pc := 0) X dX5_become_0 rfl ?_
    refine r_getr (pc := 1) X dX5_become_1 tf_5_9 rfl R.c0 R.r0 ?_
    refine r_iconst (pc := 4) (v := (nI 0)) X dX5_become_4 (by decide) ?_
    refine r_aload_n (pc := 5) X dX5_become_5 rfl ?_
    refine r_getr (pc := 6) X dX5_become_6 tf_5_9 rfl S.c0 S.r0 ?_
    refine r_iconst (pc := 9) (v := (nI 0)) X dX5_become_9 (by decide) ?_
    refine r_bipush (pc := 10) (v := (nI 6)) X dX5_become_10 (by decide) ?_
    refine r_copyiW (pc := 12) X rfl dX5_become_12 tq_5_34 R.a1 S.a1 (i := 0) (j := 0) (k := 6) rfl rfl rfl (by omega) (by omega) (Nat.le_of_ble_eq_true rfl) ?_
    refine r_aload_n (pc := 15) X dX5_become_15 rfl ?_
    refine r_getr (pc := 16) X dX5_become_16 tf_5_15 rfl R.c0 R.r1 ?_
    refine r_iconst (pc := 19) (v := (nI 0)) X dX5_become_19 (by decide) ?_
    refine r_aload_n (pc := 20) X dX5_become_20 rfl ?_
    refine r_getr (pc := 21) X dX5_become_21 tf_5_15 rfl S.c0 S.r1 ?_
    refine r_iconst (pc := 24) (v := (nI 0)) X dX5_become_24 (by decide) ?_
    refine r_bipush (pc := 25) (v := (nI 6)) X dX5_become_25 (by decide) ?_
    refine r_copyiW (pc := 27) X rfl dX5_become_27 tq_5_34 R.a2 S.a2 (i := 0) (j := 0) (k := 6) rfl rfl rfl (by omega) (by omega) (Nat.le_of_ble_eq_true rfl) ?_
    refine r_aload_n (pc := 30) X dX5_become_30 rfl ?_
    refine r_getr (pc := 31) X dX5_become_31 tf_5_18 rfl R.c0 R.r2 ?_
    refine r_iconst (pc := 34) (v := (nI 0)) X dX5_become_34 (by decide) ?_
    refine r_aload_n (pc := 35) X dX5_become_35 rfl ?_
    refine r_getr (pc := 36) X dX5_become_36 tf_5_18 rfl S.c0 S.r2 ?_
    refine r_iconst (pc := 39) (v := (nI 0)) X dX5_become_39 (by decide) ?_
    refine r_bipush (pc := 40) (v := (nI 6)) X dX5_become_40 (by decide) ?_
    refine r_copyiW (pc := 42) X rfl dX5_become_42 tq_5_34 R.a3 S.a3 (i := 0) (j := 0) (k := 6) rfl rfl rfl (by omega) (by omega) (Nat.le_of_ble_eq_true rfl) ?_
    refine r_aload_n (pc := 45) X dX5_become_45 rfl ?_
    refine r_getr (pc := 46) X dX5_become_46 tf_5_21 rfl R.c0 R.r3 ?_
    refine r_iconst (pc := 49) (v := (nI 0)) X dX5_become_49 (by decide) ?_
    refine r_aload_n (pc := 50) X dX5_become_50 rfl ?_
    refine r_getr (pc := 51) X dX5_become_51 tf_5_21 rfl S.c0 S.r3 ?_
    refine r_iconst (pc := 54) (v := (nI 0)) X dX5_become_54 (by decide) ?_
    refine r_bipush (pc := 55) (v := (nI 6)) X dX5_become_55 (by decide) ?_
    refine r_copyiW (pc := 57) X rfl dX5_become_57 tq_5_34 R.a4 S.a4 (i := 0) (j := 0) (k := 6) rfl rfl rfl (by omega) (by omega) (Nat.le_of_ble_eq_true rfl) ?_
    refine r_aload_n (pc := 60) X dX5_become_60 rfl ?_
    refine r_getr (pc := 61) X dX5_become_61 tf_5_24 rfl R.c0 R.r4 ?_
    refine r_iconst (pc := 64) (v := (nI 0)) X dX5_become_64 (by decide) ?_
    refine r_aload_n (pc := 65) X dX5_become_65 rfl ?_
    refine r_getr (pc := 66) X dX5_become_66 tf_5_24 rfl S.c0 S.r4 ?_
    refine r_iconst (pc := 69) (v := (nI 0)) X dX5_become_69 (by decide) ?_
    refine r_bipush (pc := 70) (v := (nI 6)) X dX5_become_70 (by decide) ?_
    refine r_copyiW (pc := 72) X rfl dX5_become_72 tq_5_34 R.a5 S.a5 (i := 0) (j := 0) (k := 6) rfl rfl rfl (by omega) (by omega) (Nat.le_of_ble_eq_true rfl) ?_
    refine r_aload_n (pc := 75) X dX5_become_75 rfl ?_
    refine r_getr (pc := 76) X dX5_become_76 tf_5_27 rfl R.c0 R.r5 ?_
    refine r_iconst (pc := 79) (v := (nI 0)) X dX5_become_79 (by decide) ?_
    refine r_aload_n (pc := 80) X dX5_become_80 rfl ?_
    refine r_getr (pc := 81) X dX5_become_81 tf_5_27 rfl S.c0 S.r5 ?_
    refine r_iconst (pc := 84) (v := (nI 0)) X dX5_become_84 (by decide) ?_
    refine r_bipush (pc := 85) (v := (nI 24)) X dX5_become_85 (by decide) ?_
    refine r_copyiW (pc := 87) X rfl dX5_become_87 tq_5_34 R.a6 S.a6 (i := 0) (j := 0) (k := 24) rfl rfl rfl (by omega) (by omega) (Nat.le_of_ble_eq_true rfl) ?_
    refine r_aload_n (pc := 90) X dX5_become_90 rfl ?_
    refine r_aload_n (pc := 91) X dX5_become_91 rfl ?_
    refine r_getiW (pc := 92) X dX5_become_92 tf_5_40 rfl R.c0 (by simp (disch := omega) only [mU_ne]; rfl) ?_
    refine r_putiW (pc := 95) X dX5_become_95 tf_5_40 rfl (Or.inl rfl) S.c0 ⟨rfl, rfl⟩ ?_
    refine r_aload_n (pc := 98) X dX5_become_98 rfl ?_
    refine r_aload_n (pc := 99) X dX5_become_99 rfl ?_
    refine r_getiW (pc := 100) X dX5_become_100 tf_5_43 rfl R.c0 (by simp (disch := omega) only [mU_ne]; rfl) ?_
    refine r_putiW (pc := 103) X dX5_become_103 tf_5_43 rfl (Or.inl rfl) S.c0 ⟨rfl, rfl⟩ ?_
    refine r_aload_n (pc := 106) X dX5_become_106 rfl ?_
    refine r_aload_n (pc := 107) X dX5_become_107 rfl ?_
    refine r_getiW (pc := 108) X dX5_become_108 tf_5_46 rfl R.c0 (by simp (disch := omega) only [mU_ne]; rfl) ?_
    refine r_putiW (pc := 111) X dX5_become_111 tf_5_46 rfl (Or.inl rfl) S.c0 ⟨rfl, rfl⟩ ?_
    refine r_aload_n (pc := 114) X dX5_become_114 rfl ?_
    refine r_aload_n (pc := 115) X dX5_become_115 rfl ?_
    refine r_getiW (pc := 116) X dX5_become_116 tf_5_49 rfl R.c0 (by simp (disch := omega) only [mU_ne]; rfl) ?_
    refine r_putiW (pc := 119) X dX5_become_119 tf_5_49 rfl (Or.inl rfl) S.c0 ⟨rfl, rfl⟩ ?_
    refine r_aload_n (pc := 122) X dX5_become_122 rfl ?_
    refine r_aload_n (pc := 123) X dX5_become_123 rfl ?_
    refine r_getiW (pc := 124) X dX5_become_124 tf_5_30 rfl R.c0 (by simp (disch := omega) only [mU_ne]; rfl) ?_
    refine r_putiW (pc := 127) X dX5_become_127 tf_5_30 rfl (Or.inl rfl) S.c0 ⟨rfl, rfl⟩ ?_
    refine r_aload_n (pc := 130) X dX5_become_130 rfl ?_
    refine r_aload_n (pc := 131) X dX5_become_131 rfl ?_
    refine r_getn (pc := 132) X dX5_become_132 tf_5_52 rfl R.c0 hr ?_
    refine r_putrW (pc := 135) (r := none) X dX5_become_135 tf_5_52 rfl (Or.inl rfl) S.c0 ?_
    refine r_vret (pc := 138) X dX5_become_138 rfl ?_
    refine ⟨⟨_, rfl, rfl, ?_, fun b hb => by simp (disch := omega) only [mU_ne]⟩, rfl⟩
    funext f i
    unfold Sv
    by_cases hf : f ≤ 6
    · simp only [if_pos hf]
      obtain ⟨z0, z1, z2⟩ := hz
      obtain ⟨y0, y1, y2⟩ := hz2
      rcases (show f = 0 ∨ f = 1 ∨ f = 2 ∨ f = 3 ∨ f = 4 ∨ f = 5 ∨ f = 6 by omega) with rfl | rfl | rfl | rfl | rfl | rfl | rfl
      · simp (disch := omega) only [mU_eq, mU_ne, Nat.add_zero]
        have a0 := z0 i
        have b0 := y0 i
        have a1 : Sv M t 0 i = M t i := rfl
        have b1 : Sv M s 0 i = M s i := rfl
        rw [a1] at a0
        rw [b1] at b0
        by_cases q : i < 6 ∨ 10 < i
        · have n6 : ¬ i = 6 := by omega
          have n7 : ¬ i = 7 := by omega
          have n8 : ¬ i = 8 := by omega
          have n9 : ¬ i = 9 := by omega
          have n10 : ¬ i = 10 := by omega
          simp only [upd, if_neg n6, if_neg n7, if_neg n8, if_neg n9, if_neg n10]
          rw [a0 q, b0 q]
        · rcases (show i = 6 ∨ i = 7 ∨ i = 8 ∨ i = 9 ∨ i = 10 by omega) with rfl | rfl | rfl | rfl | rfl <;> rfl
      all_goals
        simp (disch := omega) only [mU_eq, mU_ne]
        first
          | exact congrFun (va_cpy0 (fun j hj => z1 1 j (by omega) (by omega) hj) (fun j hj => y1 1 j (by omega) (by omega) hj)) i
          | exact congrFun (va_cpy0 (fun j hj => z1 2 j (by omega) (by omega) hj) (fun j hj => y1 2 j (by omega) (by omega) hj)) i
          | exact congrFun (va_cpy0 (fun j hj => z1 3 j (by omega) (by omega) hj) (fun j hj => y1 3 j (by omega) (by omega) hj)) i
          | exact congrFun (va_cpy0 (fun j hj => z1 4 j (by omega) (by omega) hj) (fun j hj => y1 4 j (by omega) (by omega) hj)) i
          | exact congrFun (va_cpy0 (fun j hj => z1 5 j (by omega) (by omega) hj) (fun j hj => y1 5 j (by omega) (by omega) hj)) i
          | exact congrFun (va_cpy0 (fun j hj => z2 j hj) (fun j hj => y2 j hj)) i
    · simp only [if_neg hf]
  | some e =>
    refine r_aload_n (pc := 0) X dX5_become_0 rfl ?_
    refine r_getr (pc := 1) X dX5_become_1 tf_5_9 rfl R.c0 R.r0 ?_
    refine r_iconst (pc := 4) (v := (nI 0)) X dX5_become_4 (by decide) ?_
    refine r_aload_n (pc := 5) X dX5_become_5 rfl ?_
    refine r_getr (pc := 6) X dX5_become_6 tf_5_9 rfl S.c0 S.r0 ?_
    refine r_iconst (pc := 9) (v := (nI 0)) X dX5_become_9 (by decide) ?_
    refine r_bipush (pc := 10) (v := (nI 6)) X dX5_become_10 (by decide) ?_
    refine r_copyiW (pc := 12) X rfl dX5_become_12 tq_5_34 R.a1 S.a1 (i := 0) (j := 0) (k := 6) rfl rfl rfl (by omega) (by omega) (Nat.le_of_ble_eq_true rfl) ?_
    refine r_aload_n (pc := 15) X dX5_become_15 rfl ?_
    refine r_getr (pc := 16) X dX5_become_16 tf_5_15 rfl R.c0 R.r1 ?_
    refine r_iconst (pc := 19) (v := (nI 0)) X dX5_become_19 (by decide) ?_
    refine r_aload_n (pc := 20) X dX5_become_20 rfl ?_
    refine r_getr (pc := 21) X dX5_become_21 tf_5_15 rfl S.c0 S.r1 ?_
    refine r_iconst (pc := 24) (v := (nI 0)) X dX5_become_24 (by decide) ?_
    refine r_bipush (pc := 25) (v := (nI 6)) X dX5_become_25 (by decide) ?_
    refine r_copyiW (pc := 27) X rfl dX5_become_27 tq_5_34 R.a2 S.a2 (i := 0) (j := 0) (k := 6) rfl rfl rfl (by omega) (by omega) (Nat.le_of_ble_eq_true rfl) ?_
    refine r_aload_n (pc := 30) X dX5_become_30 rfl ?_
    refine r_getr (pc := 31) X dX5_become_31 tf_5_18 rfl R.c0 R.r2 ?_
    refine r_iconst (pc := 34) (v := (nI 0)) X dX5_become_34 (by decide) ?_
    refine r_aload_n (pc := 35) X dX5_become_35 rfl ?_
    refine r_getr (pc := 36) X dX5_become_36 tf_5_18 rfl S.c0 S.r2 ?_
    refine r_iconst (pc := 39) (v := (nI 0)) X dX5_become_39 (by decide) ?_
    refine r_bipush (pc := 40) (v := (nI 6)) X dX5_become_40 (by decide) ?_
    refine r_copyiW (pc := 42) X rfl dX5_become_42 tq_5_34 R.a3 S.a3 (i := 0) (j := 0) (k := 6) rfl rfl rfl (by omega) (by omega) (Nat.le_of_ble_eq_true rfl) ?_
    refine r_aload_n (pc := 45) X dX5_become_45 rfl ?_
    refine r_getr (pc := 46) X dX5_become_46 tf_5_21 rfl R.c0 R.r3 ?_
    refine r_iconst (pc := 49) (v := (nI 0)) X dX5_become_49 (by decide) ?_
    refine r_aload_n (pc := 50) X dX5_become_50 rfl ?_
    refine r_getr (pc := 51) X dX5_become_51 tf_5_21 rfl S.c0 S.r3 ?_
    refine r_iconst (pc := 54) (v := (nI 0)) X dX5_become_54 (by decide) ?_
    refine r_bipush (pc := 55) (v := (nI 6)) X dX5_become_55 (by decide) ?_
    refine r_copyiW (pc := 57) X rfl dX5_become_57 tq_5_34 R.a4 S.a4 (i := 0) (j := 0) (k := 6) rfl rfl rfl (by omega) (by omega) (Nat.le_of_ble_eq_true rfl) ?_
    refine r_aload_n (pc := 60) X dX5_become_60 rfl ?_
    refine r_getr (pc := 61) X dX5_become_61 tf_5_24 rfl R.c0 R.r4 ?_
    refine r_iconst (pc := 64) (v := (nI 0)) X dX5_become_64 (by decide) ?_
    refine r_aload_n (pc := 65) X dX5_become_65 rfl ?_
    refine r_getr (pc := 66) X dX5_become_66 tf_5_24 rfl S.c0 S.r4 ?_
    refine r_iconst (pc := 69) (v := (nI 0)) X dX5_become_69 (by decide) ?_
    refine r_bipush (pc := 70) (v := (nI 6)) X dX5_become_70 (by decide) ?_
    refine r_copyiW (pc := 72) X rfl dX5_become_72 tq_5_34 R.a5 S.a5 (i := 0) (j := 0) (k := 6) rfl rfl rfl (by omega) (by omega) (Nat.le_of_ble_eq_true rfl) ?_
    refine r_aload_n (pc := 75) X dX5_become_75 rfl ?_
    refine r_getr (pc := 76) X dX5_become_76 tf_5_27 rfl R.c0 R.r5 ?_
    refine r_iconst (pc := 79) (v := (nI 0)) X dX5_become_79 (by decide) ?_
    refine r_aload_n (pc := 80) X dX5_become_80 rfl ?_
    refine r_getr (pc := 81) X dX5_become_81 tf_5_27 rfl S.c0 S.r5 ?_
    refine r_iconst (pc := 84) (v := (nI 0)) X dX5_become_84 (by decide) ?_
    refine r_bipush (pc := 85) (v := (nI 24)) X dX5_become_85 (by decide) ?_
    refine r_copyiW (pc := 87) X rfl dX5_become_87 tq_5_34 R.a6 S.a6 (i := 0) (j := 0) (k := 24) rfl rfl rfl (by omega) (by omega) (Nat.le_of_ble_eq_true rfl) ?_
    refine r_aload_n (pc := 90) X dX5_become_90 rfl ?_
    refine r_aload_n (pc := 91) X dX5_become_91 rfl ?_
    refine r_getiW (pc := 92) X dX5_become_92 tf_5_40 rfl R.c0 (by simp (disch := omega) only [mU_ne]; rfl) ?_
    refine r_putiW (pc := 95) X dX5_become_95 tf_5_40 rfl (Or.inl rfl) S.c0 ⟨rfl, rfl⟩ ?_
    refine r_aload_n (pc := 98) X dX5_become_98 rfl ?_
    refine r_aload_n (pc := 99) X dX5_become_99 rfl ?_
    refine r_getiW (pc := 100) X dX5_become_100 tf_5_43 rfl R.c0 (by simp (disch := omega) only [mU_ne]; rfl) ?_
    refine r_putiW (pc := 103) X dX5_become_103 tf_5_43 rfl (Or.inl rfl) S.c0 ⟨rfl, rfl⟩ ?_
    refine r_aload_n (pc := 106) X dX5_become_106 rfl ?_
    refine r_aload_n (pc := 107) X dX5_become_107 rfl ?_
    refine r_getiW (pc := 108) X dX5_become_108 tf_5_46 rfl R.c0 (by simp (disch := omega) only [mU_ne]; rfl) ?_
    refine r_putiW (pc := 111) X dX5_become_111 tf_5_46 rfl (Or.inl rfl) S.c0 ⟨rfl, rfl⟩ ?_
    refine r_aload_n (pc := 114) X dX5_become_114 rfl ?_
    refine r_aload_n (pc := 115) X dX5_become_115 rfl ?_
    refine r_getiW (pc := 116) X dX5_become_116 tf_5_49 rfl R.c0 (by simp (disch := omega) only [mU_ne]; rfl) ?_
    refine r_putiW (pc := 119) X dX5_become_119 tf_5_49 rfl (Or.inl rfl) S.c0 ⟨rfl, rfl⟩ ?_
    refine r_aload_n (pc := 122) X dX5_become_122 rfl ?_
    refine r_aload_n (pc := 123) X dX5_become_123 rfl ?_
    refine r_getiW (pc := 124) X dX5_become_124 tf_5_30 rfl R.c0 (by simp (disch := omega) only [mU_ne]; rfl) ?_
    refine r_putiW (pc := 127) X dX5_become_127 tf_5_30 rfl (Or.inl rfl) S.c0 ⟨rfl, rfl⟩ ?_
    refine r_aload_n (pc := 130) X dX5_become_130 rfl ?_
    refine r_aload_n (pc := 131) X dX5_become_131 rfl ?_
    refine r_getr (pc := 132) X dX5_become_132 tf_5_52 rfl R.c0 hr ?_
    refine r_putrW (pc := 135) (r := (some e)) X dX5_become_135 tf_5_52 rfl (Or.inl rfl) S.c0 ?_
    refine r_vret (pc := 138) X dX5_become_138 rfl ?_
    refine ⟨⟨_, rfl, rfl, ?_, fun b hb => by simp (disch := omega) only [mU_ne]⟩, rfl⟩
    funext f i
    unfold Sv
    by_cases hf : f ≤ 6
    · simp only [if_pos hf]
      obtain ⟨z0, z1, z2⟩ := hz
      obtain ⟨y0, y1, y2⟩ := hz2
      rcases (show f = 0 ∨ f = 1 ∨ f = 2 ∨ f = 3 ∨ f = 4 ∨ f = 5 ∨ f = 6 by omega) with rfl | rfl | rfl | rfl | rfl | rfl | rfl
      · simp (disch := omega) only [mU_eq, mU_ne, Nat.add_zero]
        have a0 := z0 i
        have b0 := y0 i
        have a1 : Sv M t 0 i = M t i := rfl
        have b1 : Sv M s 0 i = M s i := rfl
        rw [a1] at a0
        rw [b1] at b0
        by_cases q : i < 6 ∨ 10 < i
        · have n6 : ¬ i = 6 := by omega
          have n7 : ¬ i = 7 := by omega
          have n8 : ¬ i = 8 := by omega
          have n9 : ¬ i = 9 := by omega
          have n10 : ¬ i = 10 := by omega
          simp only [upd, if_neg n6, if_neg n7, if_neg n8, if_neg n9, if_neg n10]
          rw [a0 q, b0 q]
        · rcases (show i = 6 ∨ i = 7 ∨ i = 8 ∨ i = 9 ∨ i = 10 by omega) with rfl | rfl | rfl | rfl | rfl <;> rfl
      all_goals
        simp (disch := omega) only [mU_eq, mU_ne]
        first
          | exact congrFun (va_cpy0 (fun j hj => z1 1 j (by omega) (by omega) hj) (fun j hj => y1 1 j (by omega) (by omega) hj)) i
          | exact congrFun (va_cpy0 (fun j hj => z1 2 j (by omega) (by omega) hj) (fun j hj => y1 2 j (by omega) (by omega) hj)) i
          | exact congrFun (va_cpy0 (fun j hj => z1 3 j (by omega) (by omega) hj) (fun j hj => y1 3 j (by omega) (by omega) hj)) i
          | exact congrFun (va_cpy0 (fun j hj => z1 4 j (by omega) (by omega) hj) (fun j hj => y1 4 j (by omega) (by omega) hj)) i
          | exact congrFun (va_cpy0 (fun j hj => z1 5 j (by omega) (by omega) hj) (fun j hj => y1 5 j (by omega) (by omega) hj)) i
          | exact congrFun (va_cpy0 (fun j hj => z2 j hj) (fun j hj => y2 j hj)) i
    · simp only [if_neg hf]
def Pr (h : hp_T) (b n : Nat) : Prop := ck h b 0 2 ∧ h_r h b 0 = some (b + 1) ∧ h_r h b 1 = some (b + 2) ∧ ck h (b + 1) 1 n ∧ ck h (b + 2) 1 n
def addF (M : Mem) (b n : Nat) (x y : Int32) : Int32 × Mem :=
  if M b 2 < nI n then
    let k := (M b 2).toNatClampNeg
    (nI (k + 1), mU (mU (mU M (b + 1) (upd (M (b + 1)) k x)) (b + 2) (upd (M (b + 2)) k y)) b (upd (M b) 2 (nI (k + 1))))
  else (-4, M)
set_option maxRecDepth 10000 in
set_option maxHeartbeats 4000000 in
theorem e_empty : ∀ (d : Nat) {h : hp_T} {M : Mem} {b n : Nat} (B : Pr h b n), Ei d nX2_empty [.ref b] (wi h M) (fun r M1 => r = nI 0 ∧ M1 = mU M b (upd (M b) 2 (nI 0))) := by
  intro d h M b n B
  refine Ex.of mm_X2_empty (Nat.le_of_ble_eq_true rfl) fun w κ X hk hnm => ?_
  refine r_aload_n (pc := 0) X dX2_empty_0 rfl ?_
  refine r_iconst (pc := 1) (v := (nI 0)) X dX2_empty_1 (by decide) ?_
  refine r_putiW (pc := 2) X dX2_empty_2 tf_2_18 rfl (Or.inl rfl) B.1 ⟨rfl, rfl⟩ ?_
  refine r_iconst (pc := 5) (v := (nI 0)) X dX2_empty_5 (by decide) ?_
  refine r_iret (pc := 6) X dX2_empty_6 rfl rfl ?_
  exact ⟨⟨_, _, rfl, rfl, rfl, rfl⟩, rfl⟩
set_option maxRecDepth 10000 in
set_option maxHeartbeats 4000000 in
theorem e_add : ∀ (d : Nat) (x y : Int32) {h : hp_T} {M : Mem} {b n k : Nat} (B : Pr h b n) (hk0 : M b 2 = nI k) (hkn : k ≤ n) (hn : n ≤ 100), Ei d nX2_add [.ref b, .int x, .int y] (wi h M) (fun r M1 => r = (addF M b n x y).1 ∧ M1 = (addF M b n x y).2) := by
  intro d x y h M b n k B hk0 hkn hn
  refine Ex.of mm_X2_add (Nat.le_of_ble_eq_true rfl) fun w κ X hk hnm => ?_
  refine r_aload_n (pc := 0) X dX2_add_0 rfl ?_
  refine r_getiW (pc := 1) X dX2_add_1 tf_2_18 rfl B.1 hk0 ?_
  refine r_aload_n (pc := 4) X dX2_add_4 rfl ?_
  refine r_getr (pc := 5) X dX2_add_5 tf_2_9 rfl B.1 B.2.1 ?_
  refine r_alen (pc := 8) X dX2_add_8 B.2.2.2.1 (by decide) rfl ?_
  refine r_icmp_ltN (pc := 9) X dX2_add_9 (tgt := 15) (by decide) (by omega) (by omega) (fun c9 => ?_) (fun c9 => ?_)
  · refine r_aload_n (pc := 15) X dX2_add_15 rfl ?_
    refine r_getr (pc := 16) X dX2_add_16 tf_2_9 rfl B.1 B.2.1 ?_
    refine r_aload_n (pc := 19) X dX2_add_19 rfl ?_
    refine r_getiW (pc := 20) X dX2_add_20 tf_2_18 rfl B.1 hk0 ?_
    refine r_iload_n (pc := 23) X dX2_add_23 rfl ?_
    refine r_iastW (pc := 24) X dX2_add_24 B.2.2.2.1 rfl (by omega) (by omega) ?_
    refine r_aload_n (pc := 25) X dX2_add_25 rfl ?_
    refine r_getr (pc := 26) X dX2_add_26 tf_2_15 rfl B.1 B.2.2.1 ?_
    refine r_aload_n (pc := 29) X dX2_add_29 rfl ?_
    refine r_getiW (pc := 30) X dX2_add_30 tf_2_18 rfl B.1 (show _ = nI k by simp (disch := omega) only [mU_ne]; exact hk0) ?_
    refine r_iload_n (pc := 33) X dX2_add_33 rfl ?_
    refine r_iastW (pc := 34) X dX2_add_34 B.2.2.2.2 rfl (by omega) (by omega) ?_
    refine r_aload_n (pc := 35) X dX2_add_35 rfl ?_
    refine r_dup (pc := 36) X dX2_add_36 rfl ?_
    refine r_getiW (pc := 37) X dX2_add_37 tf_2_18 rfl B.1 (show _ = nI k by simp (disch := omega) only [mU_ne]; exact hk0) ?_
    refine r_iconst (pc := 40) (v := (nI 1)) X dX2_add_40 (by decide) ?_
    refine r_iadd (pc := 41) X dX2_add_41 ?_
    refine r_top (nI_add k 1) ?_
    refine r_putiW (pc := 42) X dX2_add_42 tf_2_18 rfl (Or.inl rfl) B.1 ⟨rfl, rfl⟩ ?_
    refine r_aload_n (pc := 45) X dX2_add_45 rfl ?_
    refine r_getiW (pc := 46) X dX2_add_46 tf_2_18 rfl B.1 rfl ?_
    refine r_iret (pc := 49) X dX2_add_49 rfl rfl ?_
    have e : addF M b n x y = (nI (k + 1), mU (mU (mU M (b + 1) (upd (M (b + 1)) k x)) (b + 2) (upd (M (b + 2)) k y)) b (upd (M b) 2 (nI (k + 1)))) := by
      unfold addF
      rw [hk0, if_pos ((nI_ltI (by omega) (by omega)).mpr c9)]
      simp only [nI_clamp (show k < 2 ^ 31 by omega)]
    refine ⟨⟨_, _, rfl, rfl, ?_, ?_⟩, rfl⟩
    · rw [e]
      show mU _ b _ b 2 = _
      rw [mU_eq]
      rfl
    · rw [e]
      simp (disch := omega) only [mU_ne]
  · refine r_bipush (pc := 12) (v := (-4)) X dX2_add_12 (by decide) ?_
    refine r_iret (pc := 14) X dX2_add_14 rfl rfl ?_
    have e : addF M b n x y = (-4, M) := by
      unfold addF
      rw [hk0, if_neg (fun z => c9 ((nI_ltI (by omega) (by omega)).mp z))]
    exact ⟨⟨_, _, rfl, rfl, by rw [e], by rw [e]⟩, rfl⟩
set_option maxRecDepth 10000 in
set_option maxHeartbeats 4000000 in
theorem e_pbecome : ∀ (d : Nat) {h : hp_T} {M : Mem} {b c n : Nat} (B : Pr h b n) (C : Pr h c n) (hn : n ≤ 100) (hd : b + 2 < c ∨ c + 2 < b), Ev (d + 1) nX2_become [.ref b, .ref c] (wi h M) (fun M1 => M1 = mU (mU (mU M (b + 1) (va_cpy (M (c + 1)) (M (b + 1)) 0 0 n)) (b + 2) (va_cpy (M (c + 2)) (M (b + 2)) 0 0 n)) b (upd (M b) 2 (M c 2))) := by
  intro d h M b c n B C hn hd
  refine Ex.of mm_X2_become (Nat.le_of_ble_eq_true rfl) fun w κ X hk hnm => ?_
  refine r_aload_n (pc := 0) X dX2_become_0 rfl ?_
  refine r_getr (pc := 1) X dX2_become_1 tf_2_9 rfl C.1 C.2.1 ?_
  refine r_iconst (pc := 4) (v := (nI 0)) X dX2_become_4 (by decide) ?_
  refine r_aload_n (pc := 5) X dX2_become_5 rfl ?_
  refine r_getr (pc := 6) X dX2_become_6 tf_2_9 rfl B.1 B.2.1 ?_
  refine r_iconst (pc := 9) (v := (nI 0)) X dX2_become_9 (by decide) ?_
  refine r_aload_n (pc := 10) X dX2_become_10 rfl ?_
  refine r_getr (pc := 11) X dX2_become_11 tf_2_9 rfl B.1 B.2.1 ?_
  refine r_alen (pc := 14) X dX2_become_14 B.2.2.2.1 (by decide) rfl ?_
  refine r_copyiW (pc := 15) X rfl dX2_become_15 tq_2_22 C.2.2.2.1 B.2.2.2.1 (i := 0) (j := 0) (k := n) rfl rfl rfl (by omega) (by omega) (Nat.le_of_ble_eq_true rfl) ?_
  refine r_aload_n (pc := 18) X dX2_become_18 rfl ?_
  refine r_getr (pc := 19) X dX2_become_19 tf_2_15 rfl C.1 C.2.2.1 ?_
  refine r_iconst (pc := 22) (v := (nI 0)) X dX2_become_22 (by decide) ?_
  refine r_aload_n (pc := 23) X dX2_become_23 rfl ?_
  refine r_getr (pc := 24) X dX2_become_24 tf_2_15 rfl B.1 B.2.2.1 ?_
  refine r_iconst (pc := 27) (v := (nI 0)) X dX2_become_27 (by decide) ?_
  refine r_aload_n (pc := 28) X dX2_become_28 rfl ?_
  refine r_getr (pc := 29) X dX2_become_29 tf_2_15 rfl B.1 B.2.2.1 ?_
  refine r_alen (pc := 32) X dX2_become_32 B.2.2.2.2 (by decide) rfl ?_
  refine r_copyiW (pc := 33) X rfl dX2_become_33 tq_2_22 C.2.2.2.2 B.2.2.2.2 (i := 0) (j := 0) (k := n) rfl rfl rfl (by omega) (by omega) (Nat.le_of_ble_eq_true rfl) ?_
  refine r_aload_n (pc := 36) X dX2_become_36 rfl ?_
  refine r_aload_n (pc := 37) X dX2_become_37 rfl ?_
  refine r_getiW (pc := 38) X dX2_become_38 tf_2_18 rfl C.1 (by simp (disch := omega) only [mU_ne]; rfl) ?_
  refine r_putiW (pc := 41) X dX2_become_41 tf_2_18 rfl (Or.inl rfl) B.1 ⟨rfl, rfl⟩ ?_
  refine r_vret (pc := 44) X dX2_become_44 rfl ?_
  exact ⟨⟨_, rfl, rfl, by simp (disch := omega) only [mU_ne]⟩, rfl⟩
