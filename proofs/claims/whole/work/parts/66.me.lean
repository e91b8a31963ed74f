theorem hs_ok {w v : Int32} (h : (decide (w = 0) && iN v 3 || decide (w = 1) && iN v 999 || decide (w = 2) && iN v 9) = true) : 0 ≤ w ∧ w ≤ 2 := by
  simp only [Bool.or_eq_true, Bool.and_eq_true, decide_eq_true_eq] at h
  rcases h with (⟨rfl, -⟩ | ⟨rfl, -⟩) | ⟨rfl, -⟩ <;> decide
theorem st_ok {w v : Int32} (h : (decide (w = 1) && iN v 15 || decide (w = 2) && iN v 99 || decide (w = 3) && iN v 999) = true) : 1 ≤ w ∧ w ≤ 3 := by
  simp only [Bool.or_eq_true, Bool.and_eq_true, decide_eq_true_eq] at h
  rcases h with (⟨rfl, -⟩ | ⟨rfl, -⟩) | ⟨rfl, -⟩ <;> decide
theorem w_2 {w : Int32} (h : 0 ≤ w ∧ w ≤ 2) (h0 : ¬ w = 0) (h1 : ¬ w = 1) : w = 2 := by
  obtain ⟨q, h2, rfl⟩ := sp_rngL (n := 2) (by decide) h.1 h.2
  rcases (show q = 0 ∨ q = 1 ∨ q = 2 by omega) with rfl | rfl | rfl
  · exact absurd rfl h0
  · exact absurd rfl h1
  · rfl
theorem w_3 {w : Int32} (h : 1 ≤ w ∧ w ≤ 3) (h0 : ¬ w = 1) (h1 : ¬ w = 2) : w = 3 := by
  obtain ⟨q, h2, rfl⟩ := sp_rngL (n := 3) (by decide) (Int32.le_trans (by decide) h.1) h.2
  rcases (show q = 0 ∨ q = 1 ∨ q = 2 ∨ q = 3 by omega) with rfl | rfl | rfl | rfl
  · exact absurd h.1 (by decide)
  · exact absurd rfl h0
  · exact absurd rfl h1
  · rfl
set_option maxRecDepth 100000 in
set_option maxHeartbeats 1000000 in
theorem qX5_house {G : rb_G} {σ : Sg} {h : rb_H} (hS : okS σ) (hM : MI σ h)  (a w v : Int32) : rb_M G 2 yX5_house cX5_house 5 (some .int) [.ref (rb_ad G 9 0), .int a, .int w, .int v] (h) (PM h (r_house σ a w v)) := by
  refine rb_meth (L := [.ref (rb_ad G 9 0), .int a, .int w, .int v, .null]) (by decide) (Nat.le_of_ble_eq_true rfl) rfl (fun Z X Y => ?_)
  have X : rb_CX Z G cX5_house 5 RX5 2 := X
  obtain ⟨h, rfl⟩ : ∃ h0, h = ms h0 (sT σ) := ⟨h, (rb_row_self hM.1).symm⟩
  have hok := hS.1
  have hn4 := hok.1
  have hn10 := hok.2.1
  refine rb_iload_n X (pc := 0) dX5_house_0 rfl rfl ?_
  refine rb_i2l X (pc := 1) dX5_house_1 ?_
  refine rb_lconst (v := 0) X (pc := 2) dX5_house_2 (by decide) ?_
  refine rb_ldc2 X (pc := 3) dX5_house_3 kX5_59 ?_
  refine rc_callSi X (pc := 6) cvX5_in mX5_48 (qJn (a := (0)) (b := (2)) rfl rfl) (by decide) rfl rfl (Nat.le_of_ble_eq_true rfl) dX5_house_6 ?_
  refine rb_if_eq X (pc := 9) (tgt := 49) dX5_house_9 (by decide) (fun c9 => ?_) (fun c9 => ?_)
  · (try simp only [sp_b0, Classical.not_not] at c9)
    have cw : ¬ (decide (w = 0) && iN v 3 || decide (w = 1) && iN v 999 || decide (w = 2) && iN v 9) = true := fun z => c9 (hs_ok z)
    refine rb_iconst (v := 0) X (pc := 49) dX5_house_49 (by decide) ?_
    refine rb_istore X (pc := 50) dX5_house_50 (by decide) rfl rfl ?_
    refine rb_iload_n X (pc := 52) dX5_house_52 rfl rfl ?_
    refine rc_callSi X (pc := 53) cvX5_isHouse mX5_67 (qX5_isHouse _) (by decide) rfl rfl (Nat.le_of_ble_eq_true rfl) dX5_house_53 ?_
    refine rb_if_eq X (pc := 56) (tgt := 77) dX5_house_56 (by decide) (fun c56 => ?_) (fun c56 => ?_)
    · (try simp only [sp_b0, Classical.not_not] at c56)
      refine rb_aload_n X (pc := 77) dX5_house_77 rfl rfl ?_
      refine rb_ldc X (pc := 78) dX5_house_78 kX5_45 ?_
      refine rc_callVi X (pc := 80) cvX5_finds mX5_74 rb_ob9 (qX5_finds (i := 0) (by decide) (by decide)) (by decide) rfl rfl (Nat.le_of_ble_eq_true rfl) dX5_house_80 ?_
      refine rb_iret (S := []) X (pc := 83) Y dX5_house_83 ?_
      first
      | exact pm_T hM (by rw [r_house, c56, cw, eq1, ew]; rfl)
      | exact pm_f hM (by rw [r_house, if_neg (fun z => c56 (Bool.and_eq_true_iff.mp z).1), ff_0])
      | exact pm_f hM (by rw [r_house, if_neg (fun z => cw (Bool.and_eq_true_iff.mp z).2), ff_0])
    · (try simp only [sp_b0, Classical.not_not] at c56)
      obtain ⟨q, hq, rfl⟩ := iH_of c56
      have eq1 : ix (nI q) = q := nI_clamp (by omega)
      refine rb_iload X (pc := 59) dX5_house_59 rfl ?_
      refine rb_if_eq X (pc := 61) (tgt := 77) dX5_house_61 (by decide) (fun c61 => ?_) (fun c61 => absurd (by decide) c61)
      refine rb_aload_n X (pc := 77) dX5_house_77 rfl rfl ?_
      refine rb_ldc X (pc := 78) dX5_house_78 kX5_45 ?_
      refine rc_callVi X (pc := 80) cvX5_finds mX5_74 rb_ob9 (qX5_finds (i := 0) (by decide) (by decide)) (by decide) rfl rfl (Nat.le_of_ble_eq_true rfl) dX5_house_80 ?_
      refine rb_iret (S := []) X (pc := 83) Y dX5_house_83 ?_
      first
      | exact pm_T hM (by rw [r_house, c56, cw, eq1, ew]; rfl)
      | exact pm_f hM (by rw [r_house, if_neg (fun z => c56 (Bool.and_eq_true_iff.mp z).1), ff_0])
      | exact pm_f hM (by rw [r_house, if_neg (fun z => cw (Bool.and_eq_true_iff.mp z).2), ff_0])
  · (try simp only [sp_b0, Classical.not_not] at c9)
    refine rb_iload_n X (pc := 12) dX5_house_12 rfl rfl ?_
    refine rb_i2l X (pc := 13) dX5_house_13 ?_
    refine rb_lconst (v := 0) X (pc := 14) dX5_house_14 (by decide) ?_
    refine rb_iload_n X (pc := 15) dX5_house_15 rfl rfl ?_
    refine rb_if_ne X (pc := 16) (tgt := 25) dX5_house_16 (by decide) (fun c16 => ?_) (fun c16 => ?_)
    · refine rb_iload_n X (pc := 25) dX5_house_25 rfl rfl ?_
      refine rb_iconst (v := 1) X (pc := 26) dX5_house_26 (by decide) ?_
      refine rb_icmp_ne X (pc := 27) (tgt := 36) dX5_house_27 (by decide) (fun c27 => ?_) (fun c27 => ?_)
      · have c28 : w = 2 := w_2 c9 c16 c27
        refine rb_ldc2 X (pc := 36) dX5_house_36 kX5_65 ?_
        refine rc_callSi X (pc := 39) cvX5_in mX5_48 (qJn (a := (0)) (b := (9)) rfl rfl) (by decide) rfl rfl (Nat.le_of_ble_eq_true rfl) dX5_house_39 ?_
        refine rb_if_eq X (pc := 42) (tgt := 49) dX5_house_42 (by decide) (fun c42 => ?_) (fun c42 => ?_)
        · (try simp only [sp_b0, Classical.not_not] at c42)
          have cw : ¬ (decide (w = 0) && iN v 3 || decide (w = 1) && iN v 999 || decide (w = 2) && iN v 9) = true := by
            rw [iN_e] at c42
            first
            | (subst c16; simp [c42]; done)
            | (subst c27; simp [c42]; done)
            | (subst c28; simp [c42]; done)
          refine rb_iconst (v := 0) X (pc := 49) dX5_house_49 (by decide) ?_
          refine rb_istore X (pc := 50) dX5_house_50 (by decide) rfl rfl ?_
          refine rb_iload_n X (pc := 52) dX5_house_52 rfl rfl ?_
          refine rc_callSi X (pc := 53) cvX5_isHouse mX5_67 (qX5_isHouse _) (by decide) rfl rfl (Nat.le_of_ble_eq_true rfl) dX5_house_53 ?_
          refine rb_if_eq X (pc := 56) (tgt := 77) dX5_house_56 (by decide) (fun c56 => ?_) (fun c56 => ?_)
          · (try simp only [sp_b0, Classical.not_not] at c56)
            refine rb_aload_n X (pc := 77) dX5_house_77 rfl rfl ?_
            refine rb_ldc X (pc := 78) dX5_house_78 kX5_45 ?_
            refine rc_callVi X (pc := 80) cvX5_finds mX5_74 rb_ob9 (qX5_finds (i := 0) (by decide) (by decide)) (by decide) rfl rfl (Nat.le_of_ble_eq_true rfl) dX5_house_80 ?_
            refine rb_iret (S := []) X (pc := 83) Y dX5_house_83 ?_
            first
            | exact pm_T hM (by rw [r_house, c56, cw, eq1, ew]; rfl)
            | exact pm_f hM (by rw [r_house, if_neg (fun z => c56 (Bool.and_eq_true_iff.mp z).1), ff_0])
            | exact pm_f hM (by rw [r_house, if_neg (fun z => cw (Bool.and_eq_true_iff.mp z).2), ff_0])
          · (try simp only [sp_b0, Classical.not_not] at c56)
            obtain ⟨q, hq, rfl⟩ := iH_of c56
            have eq1 : ix (nI q) = q := nI_clamp (by omega)
            refine rb_iload X (pc := 59) dX5_house_59 rfl ?_
            refine rb_if_eq X (pc := 61) (tgt := 77) dX5_house_61 (by decide) (fun c61 => ?_) (fun c61 => absurd (by decide) c61)
            refine rb_aload_n X (pc := 77) dX5_house_77 rfl rfl ?_
            refine rb_ldc X (pc := 78) dX5_house_78 kX5_45 ?_
            refine rc_callVi X (pc := 80) cvX5_finds mX5_74 rb_ob9 (qX5_finds (i := 0) (by decide) (by decide)) (by decide) rfl rfl (Nat.le_of_ble_eq_true rfl) dX5_house_80 ?_
            refine rb_iret (S := []) X (pc := 83) Y dX5_house_83 ?_
            first
            | exact pm_T hM (by rw [r_house, c56, cw, eq1, ew]; rfl)
            | exact pm_f hM (by rw [r_house, if_neg (fun z => c56 (Bool.and_eq_true_iff.mp z).1), ff_0])
            | exact pm_f hM (by rw [r_house, if_neg (fun z => cw (Bool.and_eq_true_iff.mp z).2), ff_0])
        · (try simp only [sp_b0, Classical.not_not] at c42)
          have cw : (decide (w = 0) && iN v 3 || decide (w = 1) && iN v 999 || decide (w = 2) && iN v 9) = true := by
            rw [iN_e] at c42
            first
            | (subst c16; simp [c42]; done)
            | (subst c27; simp [c42]; done)
            | (subst c28; simp [c42]; done)
          obtain ⟨wn, hw, ewn⟩ := w012 c9.1 c9.2
          have ew : ix w = wn := by rw [ewn]; exact nI_clamp (by omega)
          refine rb_iconst (v := 1) X (pc := 45) dX5_house_45 (by decide) ?_
          refine rb_goto X (pc := 46) (tgt := 50) dX5_house_46 (by decide) ?_
          refine rb_istore X (pc := 50) dX5_house_50 (by decide) rfl rfl ?_
          refine rb_iload_n X (pc := 52) dX5_house_52 rfl rfl ?_
          refine rc_callSi X (pc := 53) cvX5_isHouse mX5_67 (qX5_isHouse _) (by decide) rfl rfl (Nat.le_of_ble_eq_true rfl) dX5_house_53 ?_
          refine rb_if_eq X (pc := 56) (tgt := 77) dX5_house_56 (by decide) (fun c56 => ?_) (fun c56 => ?_)
          · (try simp only [sp_b0, Classical.not_not] at c56)
            refine rb_aload_n X (pc := 77) dX5_house_77 rfl rfl ?_
            refine rb_ldc X (pc := 78) dX5_house_78 kX5_45 ?_
            refine rc_callVi X (pc := 80) cvX5_finds mX5_74 rb_ob9 (qX5_finds (i := 0) (by decide) (by decide)) (by decide) rfl rfl (Nat.le_of_ble_eq_true rfl) dX5_house_80 ?_
            refine rb_iret (S := []) X (pc := 83) Y dX5_house_83 ?_
            first
            | exact pm_T hM (by rw [r_house, c56, cw, eq1, ew]; rfl)
            | exact pm_f hM (by rw [r_house, if_neg (fun z => c56 (Bool.and_eq_true_iff.mp z).1), ff_0])
            | exact pm_f hM (by rw [r_house, if_neg (fun z => cw (Bool.and_eq_true_iff.mp z).2), ff_0])
          · (try simp only [sp_b0, Classical.not_not] at c56)
            obtain ⟨q, hq, rfl⟩ := iH_of c56
            have eq1 : ix (nI q) = q := nI_clamp (by omega)
            refine rb_iload X (pc := 59) dX5_house_59 rfl ?_
            refine rb_if_eq X (pc := 61) (tgt := 77) dX5_house_61 (by decide) (fun c61 => absurd c61 (by decide)) (fun c61 => ?_)
            refine rb_aload_n X (pc := 64) dX5_house_64 rfl rfl ?_
            refine rb_iload_n X (pc := 65) dX5_house_65 rfl rfl ?_
            refine rb_iload_n X (pc := 66) dX5_house_66 rfl rfl ?_
            rw [ewn]
            refine rc_callSi X (pc := 67) cvX5_partOf mX5_41 (qX5_partOf (w := wn)) (by decide) rfl rfl (Nat.le_of_ble_eq_true rfl) dX5_house_67 ?_
            refine rb_iload_n X (pc := 70) dX5_house_70 rfl rfl ?_
            refine rc_callVi X (pc := 71) cvX5_becomes mX5_71 rb_ob9 (qBh hq hw) (by decide) rfl rfl (Nat.le_of_ble_eq_true rfl) dX5_house_71 ?_
            refine rb_goto X (pc := 74) (tgt := 83) dX5_house_74 (by decide) ?_
            refine rb_iret (S := []) X (pc := 83) Y dX5_house_83 ?_
            first
            | exact pm_T hM (by rw [r_house, c56, cw, eq1, ew]; rfl)
            | exact pm_f hM (by rw [r_house, if_neg (fun z => c56 (Bool.and_eq_true_iff.mp z).1), ff_0])
            | exact pm_f hM (by rw [r_house, if_neg (fun z => cw (Bool.and_eq_true_iff.mp z).2), ff_0])
      · have c27 : w = 1 := by simpa using c27
        refine rb_ldc2 X (pc := 30) dX5_house_30 kX5_63 ?_
        refine rb_goto X (pc := 33) (tgt := 39) dX5_house_33 (by decide) ?_
        refine rc_callSi X (pc := 39) cvX5_in mX5_48 (qJn (a := (0)) (b := (999)) rfl rfl) (by decide) rfl rfl (Nat.le_of_ble_eq_true rfl) dX5_house_39 ?_
        refine rb_if_eq X (pc := 42) (tgt := 49) dX5_house_42 (by decide) (fun c42 => ?_) (fun c42 => ?_)
        · (try simp only [sp_b0, Classical.not_not] at c42)
          have cw : ¬ (decide (w = 0) && iN v 3 || decide (w = 1) && iN v 999 || decide (w = 2) && iN v 9) = true := by
            rw [iN_e] at c42
            first
            | (subst c16; simp [c42]; done)
            | (subst c27; simp [c42]; done)
            | (subst c28; simp [c42]; done)
          refine rb_iconst (v := 0) X (pc := 49) dX5_house_49 (by decide) ?_
          refine rb_istore X (pc := 50) dX5_house_50 (by decide) rfl rfl ?_
          refine rb_iload_n X (pc := 52) dX5_house_52 rfl rfl ?_
          refine rc_callSi X (pc := 53) cvX5_isHouse mX5_67 (qX5_isHouse _) (by decide) rfl rfl (Nat.le_of_ble_eq_true rfl) dX5_house_53 ?_
          refine rb_if_eq X (pc := 56) (tgt := 77) dX5_house_56 (by decide) (fun c56 => ?_) (fun c56 => ?_)
          · (try simp only [sp_b0, Classical.not_not] at c56)
            refine rb_aload_n X (pc := 77) dX5_house_77 rfl rfl ?_
            refine rb_ldc X (pc := 78) dX5_house_78 kX5_45 ?_
            refine rc_callVi X (pc := 80) cvX5_finds mX5_74 rb_ob9 (qX5_finds (i := 0) (by decide) (by decide)) (by decide) rfl rfl (Nat.le_of_ble_eq_true rfl) dX5_house_80 ?_
            refine rb_iret (S := []) X (pc := 83) Y dX5_house_83 ?_
            first
            | exact pm_T hM (by rw [r_house, c56, cw, eq1, ew]; rfl)
            | exact pm_f hM (by rw [r_house, if_neg (fun z => c56 (Bool.and_eq_true_iff.mp z).1), ff_0])
            | exact pm_f hM (by rw [r_house, if_neg (fun z => cw (Bool.and_eq_true_iff.mp z).2), ff_0])
          · (try simp only [sp_b0, Classical.not_not] at c56)
            obtain ⟨q, hq, rfl⟩ := iH_of c56
            have eq1 : ix (nI q) = q := nI_clamp (by omega)
            refine rb_iload X (pc := 59) dX5_house_59 rfl ?_
            refine rb_if_eq X (pc := 61) (tgt := 77) dX5_house_61 (by decide) (fun c61 => ?_) (fun c61 => absurd (by decide) c61)
            refine rb_aload_n X (pc := 77) dX5_house_77 rfl rfl ?_
            refine rb_ldc X (pc := 78) dX5_house_78 kX5_45 ?_
            refine rc_callVi X (pc := 80) cvX5_finds mX5_74 rb_ob9 (qX5_finds (i := 0) (by decide) (by decide)) (by decide) rfl rfl (Nat.le_of_ble_eq_true rfl) dX5_house_80 ?_
            refine rb_iret (S := []) X (pc := 83) Y dX5_house_83 ?_
            first
            | exact pm_T hM (by rw [r_house, c56, cw, eq1, ew]; rfl)
            | exact pm_f hM (by rw [r_house, if_neg (fun z => c56 (Bool.and_eq_true_iff.mp z).1), ff_0])
            | exact pm_f hM (by rw [r_house, if_neg (fun z => cw (Bool.and_eq_true_iff.mp z).2), ff_0])
        · (try simp only [sp_b0, Classical.not_not] at c42)
          have cw : (decide (w = 0) && iN v 3 || decide (w = 1) && iN v 999 || decide (w = 2) && iN v 9) = true := by
            rw [iN_e] at c42
            first
            | (subst c16; simp [c42]; done)
            | (subst c27; simp [c42]; done)
            | (subst c28; simp [c42]; done)
          obtain ⟨wn, hw, ewn⟩ := w012 c9.1 c9.2
          have ew : ix w = wn := by rw [ewn]; exact nI_clamp (by omega)
          refine rb_iconst (v := 1) X (pc := 45) dX5_house_45 (by decide) ?_
          refine rb_goto X (pc := 46) (tgt := 50) dX5_house_46 (by decide) ?_
          refine rb_istore X (pc := 50) dX5_house_50 (by decide) rfl rfl ?_
          refine rb_iload_n X (pc := 52) dX5_house_52 rfl rfl ?_
          refine rc_callSi X (pc := 53) cvX5_isHouse mX5_67 (qX5_isHouse _) (by decide) rfl rfl (Nat.le_of_ble_eq_true rfl) dX5_house_53 ?_
          refine rb_if_eq X (pc := 56) (tgt := 77) dX5_house_56 (by decide) (fun c56 => ?_) (fun c56 => ?_)
          · (try simp only [sp_b0, Classical.not_not] at c56)
            refine rb_aload_n X (pc := 77) dX5_house_77 rfl rfl ?_
            refine rb_ldc X (pc := 78) dX5_house_78 kX5_45 ?_
            refine rc_callVi X (pc := 80) cvX5_finds mX5_74 rb_ob9 (qX5_finds (i := 0) (by decide) (by decide)) (by decide) rfl rfl (Nat.le_of_ble_eq_true rfl) dX5_house_80 ?_
            refine rb_iret (S := []) X (pc := 83) Y dX5_house_83 ?_
            first
            | exact pm_T hM (by rw [r_house, c56, cw, eq1, ew]; rfl)
            | exact pm_f hM (by rw [r_house, if_neg (fun z => c56 (Bool.and_eq_true_iff.mp z).1), ff_0])
            | exact pm_f hM (by rw [r_house, if_neg (fun z => cw (Bool.and_eq_true_iff.mp z).2), ff_0])
          · (try simp only [sp_b0, Classical.not_not] at c56)
            obtain ⟨q, hq, rfl⟩ := iH_of c56
            have eq1 : ix (nI q) = q := nI_clamp (by omega)
            refine rb_iload X (pc := 59) dX5_house_59 rfl ?_
            refine rb_if_eq X (pc := 61) (tgt := 77) dX5_house_61 (by decide) (fun c61 => absurd c61 (by decide)) (fun c61 => ?_)
            refine rb_aload_n X (pc := 64) dX5_house_64 rfl rfl ?_
            refine rb_iload_n X (pc := 65) dX5_house_65 rfl rfl ?_
            refine rb_iload_n X (pc := 66) dX5_house_66 rfl rfl ?_
            rw [ewn]
            refine rc_callSi X (pc := 67) cvX5_partOf mX5_41 (qX5_partOf (w := wn)) (by decide) rfl rfl (Nat.le_of_ble_eq_true rfl) dX5_house_67 ?_
            refine rb_iload_n X (pc := 70) dX5_house_70 rfl rfl ?_
            refine rc_callVi X (pc := 71) cvX5_becomes mX5_71 rb_ob9 (qBh hq hw) (by decide) rfl rfl (Nat.le_of_ble_eq_true rfl) dX5_house_71 ?_
            refine rb_goto X (pc := 74) (tgt := 83) dX5_house_74 (by decide) ?_
            refine rb_iret (S := []) X (pc := 83) Y dX5_house_83 ?_
            first
            | exact pm_T hM (by rw [r_house, c56, cw, eq1, ew]; rfl)
            | exact pm_f hM (by rw [r_house, if_neg (fun z => c56 (Bool.and_eq_true_iff.mp z).1), ff_0])
            | exact pm_f hM (by rw [r_house, if_neg (fun z => cw (Bool.and_eq_true_iff.mp z).2), ff_0])
    · have c16 : w = 0 := by simpa using c16
      refine rb_ldc2 X (pc := 19) dX5_house_19 kX5_61 ?_
      refine rb_goto X (pc := 22) (tgt := 39) dX5_house_22 (by decide) ?_
      refine rc_callSi X (pc := 39) cvX5_in mX5_48 (qJn (a := (0)) (b := (3)) rfl rfl) (by decide) rfl rfl (Nat.le_of_ble_eq_true rfl) dX5_house_39 ?_
      refine rb_if_eq X (pc := 42) (tgt := 49) dX5_house_42 (by decide) (fun c42 => ?_) (fun c42 => ?_)
      · (try simp only [sp_b0, Classical.not_not] at c42)
        have cw : ¬ (decide (w = 0) && iN v 3 || decide (w = 1) && iN v 999 || decide (w = 2) && iN v 9) = true := by
          rw [iN_e] at c42
          first
          | (subst c16; simp [c42]; done)
          | (subst c27; simp [c42]; done)
          | (subst c28; simp [c42]; done)
        refine rb_iconst (v := 0) X (pc := 49) dX5_house_49 (by decide) ?_
        refine rb_istore X (pc := 50) dX5_house_50 (by decide) rfl rfl ?_
        refine rb_iload_n X (pc := 52) dX5_house_52 rfl rfl ?_
        refine rc_callSi X (pc := 53) cvX5_isHouse mX5_67 (qX5_isHouse _) (by decide) rfl rfl (Nat.le_of_ble_eq_true rfl) dX5_house_53 ?_
        refine rb_if_eq X (pc := 56) (tgt := 77) dX5_house_56 (by decide) (fun c56 => ?_) (fun c56 => ?_)
        · (try simp only [sp_b0, Classical.not_not] at c56)
          refine rb_aload_n X (pc := 77) dX5_house_77 rfl rfl ?_
          refine rb_ldc X (pc := 78) dX5_house_78 kX5_45 ?_
          refine rc_callVi X (pc := 80) cvX5_finds mX5_74 rb_ob9 (qX5_finds (i := 0) (by decide) (by decide)) (by decide) rfl rfl (Nat.le_of_ble_eq_true rfl) dX5_house_80 ?_
          refine rb_iret (S := []) X (pc := 83) Y dX5_house_83 ?_
          first
          | exact pm_T hM (by rw [r_house, c56, cw, eq1, ew]; rfl)
          | exact pm_f hM (by rw [r_house, if_neg (fun z => c56 (Bool.and_eq_true_iff.mp z).1), ff_0])
          | exact pm_f hM (by rw [r_house, if_neg (fun z => cw (Bool.and_eq_true_iff.mp z).2), ff_0])
        · (try simp only [sp_b0, Classical.not_not] at c56)
          obtain ⟨q, hq, rfl⟩ := iH_of c56
          have eq1 : ix (nI q) = q := nI_clamp (by omega)
          refine rb_iload X (pc := 59) dX5_house_59 rfl ?_
          refine rb_if_eq X (pc := 61) (tgt := 77) dX5_house_61 (by decide) (fun c61 => ?_) (fun c61 => absurd (by decide) c61)
          refine rb_aload_n X (pc := 77) dX5_house_77 rfl rfl ?_
          refine rb_ldc X (pc := 78) dX5_house_78 kX5_45 ?_
          refine rc_callVi X (pc := 80) cvX5_finds mX5_74 rb_ob9 (qX5_finds (i := 0) (by decide) (by decide)) (by decide) rfl rfl (Nat.le_of_ble_eq_true rfl) dX5_house_80 ?_
          refine rb_iret (S := []) X (pc := 83) Y dX5_house_83 ?_
          first
          | exact pm_T hM (by rw [r_house, c56, cw, eq1, ew]; rfl)
          | exact pm_f hM (by rw [r_house, if_neg (fun z => c56 (Bool.and_eq_true_iff.mp z).1), ff_0])
          | exact pm_f hM (by rw [r_house, if_neg (fun z => cw (Bool.and_eq_true_iff.mp z).2), ff_0])
      · (try simp only [sp_b0, Classical.not_not] at c42)
        have cw : (decide (w = 0) && iN v 3 || decide (w = 1) && iN v 999 || decide (w = 2) && iN v 9) = true := by
          rw [iN_e] at c42
          first
          | (subst c16; simp [c42]; done)
          | (subst c27; simp [c42]; done)
          | (subst c28; simp [c42]; done)
        obtain ⟨wn, hw, ewn⟩ := w012 c9.1 c9.2
        have ew : ix w = wn := by rw [ewn]; exact nI_clamp (by omega)
        refine rb_iconst (v := 1) X (pc := 45) dX5_house_45 (by decide) ?_
        refine rb_goto X (pc := 46) (tgt := 50) dX5_house_46 (by decide) ?_
        refine rb_istore X (pc := 50) dX5_house_50 (by decide) rfl rfl ?_
        refine rb_iload_n X (pc := 52) dX5_house_52 rfl rfl ?_
        refine rc_callSi X (pc := 53) cvX5_isHouse mX5_67 (qX5_isHouse _) (by decide) rfl rfl (Nat.le_of_ble_eq_true rfl) dX5_house_53 ?_
        refine rb_if_eq X (pc := 56) (tgt := 77) dX5_house_56 (by decide) (fun c56 => ?_) (fun c56 => ?_)
        · (try simp only [sp_b0, Classical.not_not] at c56)
          refine rb_aload_n X (pc := 77) dX5_house_77 rfl rfl ?_
          refine rb_ldc X (pc := 78) dX5_house_78 kX5_45 ?_
          refine rc_callVi X (pc := 80) cvX5_finds mX5_74 rb_ob9 (qX5_finds (i := 0) (by decide) (by decide)) (by decide) rfl rfl (Nat.le_of_ble_eq_true rfl) dX5_house_80 ?_
          refine rb_iret (S := []) X (pc := 83) Y dX5_house_83 ?_
          first
          | exact pm_T hM (by rw [r_house, c56, cw, eq1, ew]; rfl)
          | exact pm_f hM (by rw [r_house, if_neg (fun z => c56 (Bool.and_eq_true_iff.mp z).1), ff_0])
          | exact pm_f hM (by rw [r_house, if_neg (fun z => cw (Bool.and_eq_true_iff.mp z).2), ff_0])
        · (try simp only [sp_b0, Classical.not_not] at c56)
          obtain ⟨q, hq, rfl⟩ := iH_of c56
          have eq1 : ix (nI q) = q := nI_clamp (by omega)
          refine rb_iload X (pc := 59) dX5_house_59 rfl ?_
          refine rb_if_eq X (pc := 61) (tgt := 77) dX5_house_61 (by decide) (fun c61 => absurd c61 (by decide)) (fun c61 => ?_)
          refine rb_aload_n X (pc := 64) dX5_house_64 rfl rfl ?_
          refine rb_iload_n X (pc := 65) dX5_house_65 rfl rfl ?_
          refine rb_iload_n X (pc := 66) dX5_house_66 rfl rfl ?_
          rw [ewn]
          refine rc_callSi X (pc := 67) cvX5_partOf mX5_41 (qX5_partOf (w := wn)) (by decide) rfl rfl (Nat.le_of_ble_eq_true rfl) dX5_house_67 ?_
          refine rb_iload_n X (pc := 70) dX5_house_70 rfl rfl ?_
          refine rc_callVi X (pc := 71) cvX5_becomes mX5_71 rb_ob9 (qBh hq hw) (by decide) rfl rfl (Nat.le_of_ble_eq_true rfl) dX5_house_71 ?_
          refine rb_goto X (pc := 74) (tgt := 83) dX5_house_74 (by decide) ?_
          refine rb_iret (S := []) X (pc := 83) Y dX5_house_83 ?_
          first
          | exact pm_T hM (by rw [r_house, c56, cw, eq1, ew]; rfl)
          | exact pm_f hM (by rw [r_house, if_neg (fun z => c56 (Bool.and_eq_true_iff.mp z).1), ff_0])
          | exact pm_f hM (by rw [r_house, if_neg (fun z => cw (Bool.and_eq_true_iff.mp z).2), ff_0])
theorem w_5 {w : Int32} (h : 0 ≤ w ∧ w ≤ 5) (h2 : (2 : Int32) < w) (h3 : ¬ w = 3) (h4 : ¬ w = 4) : w = 5 := by
  obtain ⟨q, hq, rfl⟩ := sp_rngL (n := 5) (by decide) h.1 h.2
  rcases (show q = 0 ∨ q = 1 ∨ q = 2 ∨ q = 3 ∨ q = 4 ∨ q = 5 by omega) with rfl | rfl | rfl | rfl | rfl | rfl
  · exact absurd h2 (by decide)
  · exact absurd h2 (by decide)
  · exact absurd h2 (by decide)
  · exact absurd rfl h3
  · exact absurd rfl h4
  · rfl
theorem w_7 {w : Int32} (h : 0 ≤ w ∧ w ≤ 7) (h2 : (4 : Int32) < w) (h3 : ¬ w = 5) (h4 : ¬ w = 6) : w = 7 := by
  obtain ⟨q, hq, rfl⟩ := sp_rngL (n := 7) (by decide) h.1 h.2
  rcases (show q = 0 ∨ q = 1 ∨ q = 2 ∨ q = 3 ∨ q = 4 ∨ q = 5 ∨ q = 6 ∨ q = 7 by omega) with rfl | rfl | rfl | rfl | rfl | rfl | rfl | rfl
  · exact absurd h2 (by decide)
  · exact absurd h2 (by decide)
  · exact absurd h2 (by decide)
  · exact absurd h2 (by decide)
  · exact absurd h2 (by decide)
  · exact absurd rfl h3
  · exact absurd rfl h4
  · rfl
theorem w_in5 {w : Int32} (h : ¬ (0 ≤ w ∧ w ≤ 5)) : ¬ w = 0 ∧ ¬ w = 1 ∧ ¬ w = 2 ∧ ¬ w = 3 ∧ ¬ w = 4 ∧ ¬ w = 5 := by
  refine ⟨?_, ?_, ?_, ?_, ?_, ?_⟩ <;> (rintro rfl; exact h (by decide))
theorem w_in7 {w : Int32} (h : ¬ (0 ≤ w ∧ w ≤ 7)) : ¬ w = 0 ∧ ¬ w = 1 ∧ ¬ w = 2 ∧ ¬ w = 3 ∧ ¬ w = 4 ∧ ¬ w = 5 ∧ ¬ w = 6 ∧ ¬ w = 7 := by
  refine ⟨?_, ?_, ?_, ?_, ?_, ?_, ?_, ?_⟩ <;> (rintro rfl; exact h (by decide))
theorem ho_w {σ : Sg} {q wn : Nat} (hw : wn < 3) (c4 : iH (nI q) = true) (eq1 : ix (nI q) = q) : r_houseOf σ (nI q) (nI wn) = (sT σ wn q, σ) := by
  rw [r_houseOf, if_pos c4, eq1]
  rcases (show wn = 0 ∨ wn = 1 ∨ wn = 2 by omega) with rfl | rfl | rfl
  · rw [if_pos (by decide)]
  · rw [if_neg (by decide), if_pos (by decide)]
  · rw [if_neg (by decide), if_neg (by decide), if_pos (by decide)]
theorem of_w {σ : Sg} {r wn : Nat} (hw : wn < 5) (c5 : iR (sT σ) (nI r) = true) (er : ix (nI r) = r) : r_of σ (nI r) (nI wn) = (sT σ (5 + wn) r, σ) := by
  rw [r_of, if_pos c5, er]
  rcases (show wn = 0 ∨ wn = 1 ∨ wn = 2 ∨ wn = 3 ∨ wn = 4 by omega) with rfl | rfl | rfl | rfl | rfl
  · rw [if_pos (by decide)]
  · rw [if_neg (by decide), if_pos (by decide)]
  · rw [if_neg (by decide), if_neg (by decide), if_pos (by decide)]
  · rw [if_neg (by decide), if_neg (by decide), if_neg (by decide), if_pos (by decide)]
  · rw [if_neg (by decide), if_neg (by decide), if_neg (by decide), if_neg (by decide), if_pos (by decide)]
set_option maxRecDepth 100000 in
set_option maxHeartbeats 1000000 in
theorem qX5_houseOf {G : rb_G} {σ : Sg} {h : rb_H} (hS : okS σ) (hM : MI σ h)  (a w : Int32) : rb_M G 4 yX5_houseOf cX5_houseOf 3 (some .int) [.ref (rb_ad G 9 0), .int a, .int w] (h) (PM h (r_houseOf σ a w)) := by
  refine rb_meth (L := [.ref (rb_ad G 9 0), .int a, .int w]) (by decide) (Nat.le_of_ble_eq_true rfl) rfl (fun Z X Y => ?_)
  have X : rb_CX Z G cX5_houseOf 3 RX5 4 := X
  obtain ⟨h, rfl⟩ : ∃ h0, h = ms h0 (sT σ) := ⟨h, (rb_row_self hM.1).symm⟩
  have hok := hS.1
  have hn4 := hok.1
  have hn10 := hok.2.1
  refine rb_iload_n X (pc := 0) dX5_houseOf_0 rfl rfl ?_
  refine rc_callSi X (pc := 1) cvX5_isHouse mX5_67 (qX5_isHouse _) (by decide) rfl rfl (Nat.le_of_ble_eq_true rfl) dX5_houseOf_1 ?_
  refine rb_if_eq X (pc := 4) (tgt := 19) dX5_houseOf_4 (by decide) (fun c4 => ?_) (fun c4 => ?_)
  · (try simp only [sp_b0, Classical.not_not] at c4)
    refine rb_aload_n X (pc := 19) dX5_houseOf_19 rfl rfl ?_
    refine rb_ldc X (pc := 20) dX5_houseOf_20 kX5_45 ?_
    refine rc_callVi X (pc := 22) cvX5_finds mX5_74 rb_ob9 (qX5_finds (i := 0) (by decide) (by decide)) (by decide) rfl rfl (Nat.le_of_ble_eq_true rfl) dX5_houseOf_22 ?_
    refine rb_iret (S := []) X (pc := 25) Y dX5_houseOf_25 ?_
    exact pm_f hM (by simp [r_houseOf, ff_0, *]; done)
  · (try simp only [sp_b0, Classical.not_not] at c4)
    obtain ⟨q, hq, rfl⟩ := iH_of c4
    have eq1 : ix (nI q) = q := nI_clamp (by omega)
    refine rb_iload_n X (pc := 7) dX5_houseOf_7 rfl rfl ?_
    refine rb_i2l X (pc := 8) dX5_houseOf_8 ?_
    refine rb_lconst (v := 0) X (pc := 9) dX5_houseOf_9 (by decide) ?_
    refine rb_ldc2 X (pc := 10) dX5_houseOf_10 kX5_52 ?_
    refine rc_callSi X (pc := 13) cvX5_in mX5_48 (qJn (a := (0)) (b := (5)) rfl rfl) (by decide) rfl rfl (Nat.le_of_ble_eq_true rfl) dX5_houseOf_13 ?_
    refine rb_if_ne X (pc := 16) (tgt := 26) dX5_houseOf_16 (by decide) (fun c16 => ?_) (fun c16 => ?_)
    · (try simp only [sp_b0, Classical.not_not] at c16)
      refine rb_iload_n X (pc := 26) dX5_houseOf_26 rfl rfl ?_
      refine rb_iconst (v := 2) X (pc := 27) dX5_houseOf_27 (by decide) ?_
      refine rb_icmp_gt X (pc := 28) (tgt := 40) dX5_houseOf_28 (by decide) (fun c28 => ?_) (fun c28 => ?_)
      · refine rb_iload_n X (pc := 40) dX5_houseOf_40 rfl rfl ?_
        refine rb_iconst (v := 3) X (pc := 41) dX5_houseOf_41 (by decide) ?_
        refine rb_icmp_ne X (pc := 42) (tgt := 53) dX5_houseOf_42 (by decide) (fun c42 => ?_) (fun c42 => ?_)
        · refine rb_iload_n X (pc := 53) dX5_houseOf_53 rfl rfl ?_
          refine rb_iconst (v := 4) X (pc := 54) dX5_houseOf_54 (by decide) ?_
          refine rb_icmp_ne X (pc := 55) (tgt := 66) dX5_houseOf_55 (by decide) (fun c55 => ?_) (fun c55 => ?_)
          · have c56 := w_5 c16 c28 c42 c55
            have eR : r_houseOf σ (nI q) w = (sp_eat (sT σ) (nI q) (sp_n (sT σ)), σ) := by simp [r_houseOf, c4, c56]
            refine rb_aload_n X (pc := 66) dX5_houseOf_66 rfl rfl ?_
            refine rb_iload_n X (pc := 67) dX5_houseOf_67 rfl rfl ?_
            refine rc_callVi X (pc := 68) cvX5_eatenAt mX5_93 rb_ob9 (qX5_eatenAt hn4 hn10 _) (by decide) rfl rfl (Nat.le_of_ble_eq_true rfl) dX5_houseOf_68 ?_
            refine rb_iret (S := []) X (pc := 71) Y dX5_houseOf_71 ?_
            exact pm_0 hM eR
          · have c55 : w = 4 := by simpa using c55
            have eR : r_houseOf σ (nI q) w = (sp_evs (sT σ) (nI q) (sp_n (sT σ)), σ) := by simp [r_houseOf, c4, c55]
            refine rb_aload_n X (pc := 58) dX5_houseOf_58 rfl rfl ?_
            refine rb_iload_n X (pc := 59) dX5_houseOf_59 rfl rfl ?_
            refine rc_callVi X (pc := 60) cvX5_eventsAt mX5_90 rb_ob9 (qX5_eventsAt hn4 hn10 _) (by decide) rfl rfl (Nat.le_of_ble_eq_true rfl) dX5_houseOf_60 ?_
            refine rb_goto X (pc := 63) (tgt := 71) dX5_houseOf_63 (by decide) ?_
            refine rb_iret (S := []) X (pc := 71) Y dX5_houseOf_71 ?_
            exact pm_0 hM eR
        · have c42 : w = 3 := by simpa using c42
          have eR : r_houseOf σ (nI q) w = (sp_those (sT σ) (nI q) (sp_n (sT σ)), σ) := by simp [r_houseOf, c4, c42]
          refine rb_aload_n X (pc := 45) dX5_houseOf_45 rfl rfl ?_
          refine rb_iload_n X (pc := 46) dX5_houseOf_46 rfl rfl ?_
          refine rc_callVi X (pc := 47) cvX5_thoseAt mX5_87 rb_ob9 (qX5_thoseAt hn4 hn10 _) (by decide) rfl rfl (Nat.le_of_ble_eq_true rfl) dX5_houseOf_47 ?_
          refine rb_goto X (pc := 50) (tgt := 71) dX5_houseOf_50 (by decide) ?_
          refine rb_iret (S := []) X (pc := 71) Y dX5_houseOf_71 ?_
          exact pm_0 hM eR
      · obtain ⟨wn, hw, rfl⟩ := w012 c16.1 (Int32.not_lt.mp c28)
        have eR : r_houseOf σ (nI q) (nI wn) = (sT σ wn q, σ) := by exact ho_w hw c4 eq1
        refine rb_aload_n X (pc := 31) dX5_houseOf_31 rfl rfl ?_
        refine rb_iload_n X (pc := 32) dX5_houseOf_32 rfl rfl ?_
        refine rb_iload_n X (pc := 33) dX5_houseOf_33 rfl rfl ?_
        refine rc_callVi X (pc := 34) cvX5_has mX5_84 rb_ob9 (qX5_has hq hw) (by decide) rfl rfl (Nat.le_of_ble_eq_true rfl) dX5_houseOf_34 ?_
        refine rb_goto X (pc := 37) (tgt := 71) dX5_houseOf_37 (by decide) ?_
        refine rb_iret (S := []) X (pc := 71) Y dX5_houseOf_71 ?_
        exact pm_0 hM eR
    · (try simp only [sp_b0, Classical.not_not] at c16)
      obtain ⟨n0, n1, n2, n3, n4, n5⟩ := w_in5 c16
      refine rb_aload_n X (pc := 19) dX5_houseOf_19 rfl rfl ?_
      refine rb_ldc X (pc := 20) dX5_houseOf_20 kX5_45 ?_
      refine rc_callVi X (pc := 22) cvX5_finds mX5_74 rb_ob9 (qX5_finds (i := 0) (by decide) (by decide)) (by decide) rfl rfl (Nat.le_of_ble_eq_true rfl) dX5_houseOf_22 ?_
      refine rb_iret (S := []) X (pc := 25) Y dX5_houseOf_25 ?_
      exact pm_f hM (by simp [r_houseOf, ff_0, *]; done)
set_option maxRecDepth 100000 in
set_option maxHeartbeats 1000000 in
theorem qX5_rumour {G : rb_G} {σ : Sg} {h : rb_H} (hS : okS σ) (hM : MI σ h)  (k e : Int32) : rb_M G 2 yX5_rumour cX5_rumour 3 (some .int) [.ref (rb_ad G 9 0), .int k, .int e] (h) (PM h (r_rumour σ k e)) := by
  refine rb_meth (L := [.ref (rb_ad G 9 0), .int k, .int e]) (by decide) (Nat.le_of_ble_eq_true rfl) rfl (fun Z X Y => ?_)
  have X : rb_CX Z G cX5_rumour 3 RX5 2 := X
  obtain ⟨h, rfl⟩ : ∃ h0, h = ms h0 (sT σ) := ⟨h, (rb_row_self hM.1).symm⟩
  have hok := hS.1
  have hn4 := hok.1
  have hn10 := hok.2.1
  refine rb_iload_n X (pc := 0) dX5_rumour_0 rfl rfl ?_
  refine rc_callSi X (pc := 1) cvX5_isKind mX5_96 (qX5_isKind _) (by decide) rfl rfl (Nat.le_of_ble_eq_true rfl) dX5_rumour_1 ?_
  refine rb_if_eq X (pc := 4) (tgt := 14) dX5_rumour_4 (by decide) (fun c4 => ?_) (fun c4 => ?_)
  · (try simp only [sp_b0, Classical.not_not] at c4)
    refine rb_aload_n X (pc := 14) dX5_rumour_14 rfl rfl ?_
    refine rb_ldc X (pc := 15) dX5_rumour_15 kX5_45 ?_
    refine rc_callVi X (pc := 17) cvX5_finds mX5_74 rb_ob9 (qX5_finds (i := 0) (by decide) (by decide)) (by decide) rfl rfl (Nat.le_of_ble_eq_true rfl) dX5_rumour_17 ?_
    refine rb_iret (S := []) X (pc := 20) Y dX5_rumour_20 ?_
    exact pm_f hM (by simp [r_rumour, ff_0, *]; done)
  · (try simp only [sp_b0, Classical.not_not] at c4)
    refine rb_iload_n X (pc := 7) dX5_rumour_7 rfl rfl ?_
    refine rc_callSi X (pc := 8) cvX5_isEvent mX5_99 (qX5_isEvent _) (by decide) rfl rfl (Nat.le_of_ble_eq_true rfl) dX5_rumour_8 ?_
    refine rb_if_ne X (pc := 11) (tgt := 21) dX5_rumour_11 (by decide) (fun c11 => ?_) (fun c11 => ?_)
    · (try simp only [sp_b0, Classical.not_not] at c11)
      refine rb_aload_n X (pc := 21) dX5_rumour_21 rfl rfl ?_
      refine rc_getR X (pc := 22) fX5_7 rb_ob9 rfl dX5_rumour_22 ?_
      refine rb_iconst (v := 0) X (pc := 25) dX5_rumour_25 (by decide) ?_
      refine rc_ialdv X (pc := 26) 0 rb_ar9_0 ms_0 rfl (by decide) dX5_rumour_26 ?_
      refine rb_bipush (v := 10) X (pc := 27) dX5_rumour_27 (by decide) ?_
      refine rb_icmp_ne X (pc := 29) (tgt := 41) dX5_rumour_29 (by decide) (fun c29 => ?_) (fun c29 => ?_)
      · have hnf : sp_n (sT σ) < 10 := by
          rcases Nat.lt_or_ge (sp_n (sT σ)) 10 with z | z
          · exact z
          · exact absurd (by rw [hn4, show sp_n (sT σ) = 10 by omega]; rfl) c29
        have c30 := sp_nfull hn4 hnf
        have eR : r_rumour σ k e = (nI (sp_n (sT σ)), wT σ (sp_add (sT σ) k e 10)) := by simp [r_rumour, c4, c11, c30]
        refine rb_aload_n X (pc := 41) dX5_rumour_41 rfl rfl ?_
        refine rb_iload_n X (pc := 42) dX5_rumour_42 rfl rfl ?_
        refine rb_iload_n X (pc := 43) dX5_rumour_43 rfl rfl ?_
        refine rc_callVi X (pc := 44) cvX5_adds mX5_103 rb_ob9 (qX5_adds hn4 hn10 hnf _ _) (by decide) rfl rfl (Nat.le_of_ble_eq_true rfl) dX5_rumour_44 ?_
        refine rb_iret (S := []) X (pc := 47) Y dX5_rumour_47 ?_
        first
        | exact pm_T hM eR
        | exact pm_f hM eR
      · have c29 : sT σ 4 0 = 10 := by simpa using c29
        have c30 : (10 : Int32) ≤ sT σ 4 0 := by rw [c29]; decide
        have eR : r_rumour σ k e = (-1000000002, fnd σ 1) := by simp [r_rumour, c4, c11, c30, ff_1]
        refine rb_aload_n X (pc := 32) dX5_rumour_32 rfl rfl ?_
        refine rb_ldc X (pc := 33) dX5_rumour_33 kX5_102 ?_
        refine rc_callVi X (pc := 35) cvX5_finds mX5_74 rb_ob9 (qX5_finds (i := 1) (by decide) (by decide)) (by decide) rfl rfl (Nat.le_of_ble_eq_true rfl) dX5_rumour_35 ?_
        refine rb_goto X (pc := 38) (tgt := 47) dX5_rumour_38 (by decide) ?_
        refine rb_iret (S := []) X (pc := 47) Y dX5_rumour_47 ?_
        first
        | exact pm_T hM eR
        | exact pm_f hM eR
    · (try simp only [sp_b0, Classical.not_not] at c11)
      refine rb_aload_n X (pc := 14) dX5_rumour_14 rfl rfl ?_
      refine rb_ldc X (pc := 15) dX5_rumour_15 kX5_45 ?_
      refine rc_callVi X (pc := 17) cvX5_finds mX5_74 rb_ob9 (qX5_finds (i := 0) (by decide) (by decide)) (by decide) rfl rfl (Nat.le_of_ble_eq_true rfl) dX5_rumour_17 ?_
      refine rb_iret (S := []) X (pc := 20) Y dX5_rumour_20 ?_
      exact pm_f hM (by simp [r_rumour, ff_0, *]; done)
set_option maxRecDepth 100000 in
set_option maxHeartbeats 1000000 in
theorem qX5_of {G : rb_G} {σ : Sg} {h : rb_H} (hS : okS σ) (hM : MI σ h)  (r0 w : Int32) : rb_M G 3 yX5_of cX5_of 3 (some .int) [.ref (rb_ad G 9 0), .int r0, .int w] (h) (PM h (r_of σ r0 w)) := by
  refine rb_meth (L := [.ref (rb_ad G 9 0), .int r0, .int w]) (by decide) (Nat.le_of_ble_eq_true rfl) rfl (fun Z X Y => ?_)
  have X : rb_CX Z G cX5_of 3 RX5 3 := X
  obtain ⟨h, rfl⟩ : ∃ h0, h = ms h0 (sT σ) := ⟨h, (rb_row_self hM.1).symm⟩
  have hok := hS.1
  have hn4 := hok.1
  have hn10 := hok.2.1
  refine rb_aload_n X (pc := 0) dX5_of_0 rfl rfl ?_
  refine rb_iload_n X (pc := 1) dX5_of_1 rfl rfl ?_
  refine rc_callVi X (pc := 2) cvX5_isRumour mX5_106 rb_ob9 (qX5_isRumour hn4 hn10 _) (by decide) rfl rfl (Nat.le_of_ble_eq_true rfl) dX5_of_2 ?_
  refine rb_if_eq X (pc := 5) (tgt := 20) dX5_of_5 (by decide) (fun c5 => ?_) (fun c5 => ?_)
  · (try simp only [sp_b0, Classical.not_not] at c5)
    refine rb_aload_n X (pc := 20) dX5_of_20 rfl rfl ?_
    refine rb_ldc X (pc := 21) dX5_of_21 kX5_45 ?_
    refine rc_callVi X (pc := 23) cvX5_finds mX5_74 rb_ob9 (qX5_finds (i := 0) (by decide) (by decide)) (by decide) rfl rfl (Nat.le_of_ble_eq_true rfl) dX5_of_23 ?_
    refine rb_iret (S := []) X (pc := 26) Y dX5_of_26 ?_
    exact pm_f hM (by simp [r_of, ff_0, *]; done)
  · (try simp only [sp_b0, Classical.not_not] at c5)
    obtain ⟨r, hr, rfl⟩ := iR_of hok c5
    have er : ix (nI r) = r := nI_clamp (by omega)
    refine rb_iload_n X (pc := 8) dX5_of_8 rfl rfl ?_
    refine rb_i2l X (pc := 9) dX5_of_9 ?_
    refine rb_lconst (v := 0) X (pc := 10) dX5_of_10 (by decide) ?_
    refine rb_ldc2 X (pc := 11) dX5_of_11 kX5_46 ?_
    refine rc_callSi X (pc := 14) cvX5_in mX5_48 (qJn (a := (0)) (b := (7)) rfl rfl) (by decide) rfl rfl (Nat.le_of_ble_eq_true rfl) dX5_of_14 ?_
    refine rb_if_ne X (pc := 17) (tgt := 27) dX5_of_17 (by decide) (fun c17 => ?_) (fun c17 => ?_)
    · (try simp only [sp_b0, Classical.not_not] at c17)
      refine rb_iload_n X (pc := 27) dX5_of_27 rfl rfl ?_
      refine rb_iconst (v := 4) X (pc := 28) dX5_of_28 (by decide) ?_
      refine rb_icmp_gt X (pc := 29) (tgt := 41) dX5_of_29 (by decide) (fun c29 => ?_) (fun c29 => ?_)
      · refine rb_iload_n X (pc := 41) dX5_of_41 rfl rfl ?_
        refine rb_iconst (v := 5) X (pc := 42) dX5_of_42 (by decide) ?_
        refine rb_icmp_ne X (pc := 43) (tgt := 54) dX5_of_43 (by decide) (fun c43 => ?_) (fun c43 => ?_)
        · refine rb_iload_n X (pc := 54) dX5_of_54 rfl rfl ?_
          refine rb_bipush (v := 6) X (pc := 55) dX5_of_55 (by decide) ?_
          refine rb_icmp_ne X (pc := 57) (tgt := 68) dX5_of_57 (by decide) (fun c57 => ?_) (fun c57 => ?_)
          · have c58 := w_7 c17 c29 c43 c57
            have eR : r_of σ (nI r) w = (sp_gR (sT σ) r, σ) := by simp [r_of, c5, c58, er]
            refine rb_aload_n X (pc := 68) dX5_of_68 rfl rfl ?_
            refine rb_iload_n X (pc := 69) dX5_of_69 rfl rfl ?_
            refine rc_callVi X (pc := 70) cvX5_grows mX5_112 rb_ob9 (qX5_grows (by omega)) (by decide) rfl rfl (Nat.le_of_ble_eq_true rfl) dX5_of_70 ?_
            refine rb_iret (S := []) X (pc := 73) Y dX5_of_73 ?_
            exact pm_0 hM eR
          · have c57 : w = 6 := by simpa using c57
            have eR : r_of σ (nI r) w = (sp_nR (sT σ) r, σ) := by simp [r_of, c5, c57, er]
            refine rb_aload_n X (pc := 60) dX5_of_60 rfl rfl ?_
            refine rb_iload_n X (pc := 61) dX5_of_61 rfl rfl ?_
            refine rc_callVi X (pc := 62) cvX5_needs mX5_109 rb_ob9 (qX5_needs (by omega)) (by decide) rfl rfl (Nat.le_of_ble_eq_true rfl) dX5_of_62 ?_
            refine rb_goto X (pc := 65) (tgt := 73) dX5_of_65 (by decide) ?_
            refine rb_iret (S := []) X (pc := 73) Y dX5_of_73 ?_
            exact pm_0 hM eR
        · have c43 : w = 5 := by simpa using c43
          have eR : r_of σ (nI r) w = (sp_eR (sT σ) r, σ) := by simp [r_of, c5, c43, er]
          refine rb_aload_n X (pc := 46) dX5_of_46 rfl rfl ?_
          refine rb_iload_n X (pc := 47) dX5_of_47 rfl rfl ?_
          refine rc_callVi X (pc := 48) cvX5_eats mX5_81 rb_ob9 (qX5_eats (by omega)) (by decide) rfl rfl (Nat.le_of_ble_eq_true rfl) dX5_of_48 ?_
          refine rb_goto X (pc := 51) (tgt := 73) dX5_of_51 (by decide) ?_
          refine rb_iret (S := []) X (pc := 73) Y dX5_of_73 ?_
          exact pm_0 hM eR
      · obtain ⟨wn, hw, rfl⟩ := sp_rngL (n := 4) (by decide) c17.1 (Int32.not_lt.mp c29)
        have eR : r_of σ (nI r) (nI wn) = (sT σ (5 + wn) r, σ) := by exact of_w (by omega) c5 er
        refine rb_aload_n X (pc := 32) dX5_of_32 rfl rfl ?_
        refine rb_iload_n X (pc := 33) dX5_of_33 rfl rfl ?_
        refine rb_iload_n X (pc := 34) dX5_of_34 rfl rfl ?_
        refine rc_callVi X (pc := 35) cvX5_its mX5_78 rb_ob9 (qX5_its (by omega) (by omega)) (by decide) rfl rfl (Nat.le_of_ble_eq_true rfl) dX5_of_35 ?_
        refine rb_goto X (pc := 38) (tgt := 73) dX5_of_38 (by decide) ?_
        refine rb_iret (S := []) X (pc := 73) Y dX5_of_73 ?_
        exact pm_0 hM eR
    · (try simp only [sp_b0, Classical.not_not] at c17)
      obtain ⟨n0, n1, n2, n3, n4, n5, n6, n7⟩ := w_in7 c17
      refine rb_aload_n X (pc := 20) dX5_of_20 rfl rfl ?_
      refine rb_ldc X (pc := 21) dX5_of_21 kX5_45 ?_
      refine rc_callVi X (pc := 23) cvX5_finds mX5_74 rb_ob9 (qX5_finds (i := 0) (by decide) (by decide)) (by decide) rfl rfl (Nat.le_of_ble_eq_true rfl) dX5_of_23 ?_
      refine rb_iret (S := []) X (pc := 26) Y dX5_of_26 ?_
      exact pm_f hM (by simp [r_of, ff_0, *]; done)
set_option maxRecDepth 100000 in
set_option maxHeartbeats 1000000 in
theorem qX5_set {G : rb_G} {σ : Sg} {h : rb_H} (hS : okS σ) (hM : MI σ h)  (r0 w v : Int32) : rb_M G 2 yX5_set cX5_set 5 (some .int) [.ref (rb_ad G 9 0), .int r0, .int w, .int v] (h) (PM h (r_set σ r0 w v)) := by
  refine rb_meth (L := [.ref (rb_ad G 9 0), .int r0, .int w, .int v, .null]) (by decide) (Nat.le_of_ble_eq_true rfl) rfl (fun Z X Y => ?_)
  have X : rb_CX Z G cX5_set 5 RX5 2 := X
  obtain ⟨h, rfl⟩ : ∃ h0, h = ms h0 (sT σ) := ⟨h, (rb_row_self hM.1).symm⟩
  have hok := hS.1
  have hn4 := hok.1
  have hn10 := hok.2.1
  refine rb_iload_n X (pc := 0) dX5_set_0 rfl rfl ?_
  refine rb_i2l X (pc := 1) dX5_set_1 ?_
  refine rb_lconst (v := 1) X (pc := 2) dX5_set_2 (by decide) ?_
  refine rb_ldc2 X (pc := 3) dX5_set_3 kX5_61 ?_
  refine rc_callSi X (pc := 6) cvX5_in mX5_48 (qJn (a := (1)) (b := (3)) rfl rfl) (by decide) rfl rfl (Nat.le_of_ble_eq_true rfl) dX5_set_6 ?_
  refine rb_if_eq X (pc := 9) (tgt := 50) dX5_set_9 (by decide) (fun c9 => ?_) (fun c9 => ?_)
  · (try simp only [sp_b0, Classical.not_not] at c9)
    have cw : ¬ (decide (w = 1) && iN v 15 || decide (w = 2) && iN v 99 || decide (w = 3) && iN v 999) = true := fun z => c9 (st_ok z)
    refine rb_iconst (v := 0) X (pc := 50) dX5_set_50 (by decide) ?_
    refine rb_istore X (pc := 51) dX5_set_51 (by decide) rfl rfl ?_
    refine rb_aload_n X (pc := 53) dX5_set_53 rfl rfl ?_
    refine rb_iload_n X (pc := 54) dX5_set_54 rfl rfl ?_
    refine rc_callVi X (pc := 55) cvX5_isRumour mX5_106 rb_ob9 (qX5_isRumour hn4 hn10 _) (by decide) rfl rfl (Nat.le_of_ble_eq_true rfl) dX5_set_55 ?_
    refine rb_if_eq X (pc := 58) (tgt := 79) dX5_set_58 (by decide) (fun c58 => ?_) (fun c58 => ?_)
    · (try simp only [sp_b0, Classical.not_not] at c58)
      refine rb_aload_n X (pc := 79) dX5_set_79 rfl rfl ?_
      refine rb_ldc X (pc := 80) dX5_set_80 kX5_45 ?_
      refine rc_callVi X (pc := 82) cvX5_finds mX5_74 rb_ob9 (qX5_finds (i := 0) (by decide) (by decide)) (by decide) rfl rfl (Nat.le_of_ble_eq_true rfl) dX5_set_82 ?_
      refine rb_iret (S := []) X (pc := 85) Y dX5_set_85 ?_
      first
      | exact pm_T hM (by rw [r_set, c58, cw, er, ew]; rfl)
      | exact pm_f hM (by rw [r_set, if_neg (fun z => c58 (Bool.and_eq_true_iff.mp z).1), ff_0])
      | exact pm_f hM (by rw [r_set, if_neg (fun z => cw (Bool.and_eq_true_iff.mp z).2), ff_0])
    · (try simp only [sp_b0, Classical.not_not] at c58)
      obtain ⟨r, hr, rfl⟩ := iR_of hok c58
      have er : ix (nI r) = r := nI_clamp (by omega)
      refine rb_iload X (pc := 61) dX5_set_61 rfl ?_
      refine rb_if_eq X (pc := 63) (tgt := 79) dX5_set_63 (by decide) (fun c63 => ?_) (fun c63 => absurd (by decide) c63)
      refine rb_aload_n X (pc := 79) dX5_set_79 rfl rfl ?_
      refine rb_ldc X (pc := 80) dX5_set_80 kX5_45 ?_
      refine rc_callVi X (pc := 82) cvX5_finds mX5_74 rb_ob9 (qX5_finds (i := 0) (by decide) (by decide)) (by decide) rfl rfl (Nat.le_of_ble_eq_true rfl) dX5_set_82 ?_
      refine rb_iret (S := []) X (pc := 85) Y dX5_set_85 ?_
      first
      | exact pm_T hM (by rw [r_set, c58, cw, er, ew]; rfl)
      | exact pm_f hM (by rw [r_set, if_neg (fun z => c58 (Bool.and_eq_true_iff.mp z).1), ff_0])
      | exact pm_f hM (by rw [r_set, if_neg (fun z => cw (Bool.and_eq_true_iff.mp z).2), ff_0])
  · (try simp only [sp_b0, Classical.not_not] at c9)
    refine rb_iload_n X (pc := 12) dX5_set_12 rfl rfl ?_
    refine rb_i2l X (pc := 13) dX5_set_13 ?_
    refine rb_lconst (v := 0) X (pc := 14) dX5_set_14 (by decide) ?_
    refine rb_iload_n X (pc := 15) dX5_set_15 rfl rfl ?_
    refine rb_iconst (v := 1) X (pc := 16) dX5_set_16 (by decide) ?_
    refine rb_icmp_ne X (pc := 17) (tgt := 26) dX5_set_17 (by decide) (fun c17 => ?_) (fun c17 => ?_)
    · refine rb_iload_n X (pc := 26) dX5_set_26 rfl rfl ?_
      refine rb_iconst (v := 2) X (pc := 27) dX5_set_27 (by decide) ?_
      refine rb_icmp_ne X (pc := 28) (tgt := 37) dX5_set_28 (by decide) (fun c28 => ?_) (fun c28 => ?_)
      · have c29 : w = 3 := w_3 c9 c17 c28
        refine rb_ldc2 X (pc := 37) dX5_set_37 kX5_63 ?_
        refine rc_callSi X (pc := 40) cvX5_in mX5_48 (qJn (a := (0)) (b := (999)) rfl rfl) (by decide) rfl rfl (Nat.le_of_ble_eq_true rfl) dX5_set_40 ?_
        refine rb_if_eq X (pc := 43) (tgt := 50) dX5_set_43 (by decide) (fun c43 => ?_) (fun c43 => ?_)
        · (try simp only [sp_b0, Classical.not_not] at c43)
          have cw : ¬ (decide (w = 1) && iN v 15 || decide (w = 2) && iN v 99 || decide (w = 3) && iN v 999) = true := by
            rw [iN_e] at c43
            first
            | (subst c17; simp [c43]; done)
            | (subst c28; simp [c43]; done)
            | (subst c29; simp [c43]; done)
          refine rb_iconst (v := 0) X (pc := 50) dX5_set_50 (by decide) ?_
          refine rb_istore X (pc := 51) dX5_set_51 (by decide) rfl rfl ?_
          refine rb_aload_n X (pc := 53) dX5_set_53 rfl rfl ?_
          refine rb_iload_n X (pc := 54) dX5_set_54 rfl rfl ?_
          refine rc_callVi X (pc := 55) cvX5_isRumour mX5_106 rb_ob9 (qX5_isRumour hn4 hn10 _) (by decide) rfl rfl (Nat.le_of_ble_eq_true rfl) dX5_set_55 ?_
          refine rb_if_eq X (pc := 58) (tgt := 79) dX5_set_58 (by decide) (fun c58 => ?_) (fun c58 => ?_)
          · (try simp only [sp_b0, Classical.not_not] at c58)
            refine rb_aload_n X (pc := 79) dX5_set_79 rfl rfl ?_
            refine rb_ldc X (pc := 80) dX5_set_80 kX5_45 ?_
            refine rc_callVi X (pc := 82) cvX5_finds mX5_74 rb_ob9 (qX5_finds (i := 0) (by decide) (by decide)) (by decide) rfl rfl (Nat.le_of_ble_eq_true rfl) dX5_set_82 ?_
            refine rb_iret (S := []) X (pc := 85) Y dX5_set_85 ?_
            first
            | exact pm_T hM (by rw [r_set, c58, cw, er, ew]; rfl)
            | exact pm_f hM (by rw [r_set, if_neg (fun z => c58 (Bool.and_eq_true_iff.mp z).1), ff_0])
            | exact pm_f hM (by rw [r_set, if_neg (fun z => cw (Bool.and_eq_true_iff.mp z).2), ff_0])
          · (try simp only [sp_b0, Classical.not_not] at c58)
            obtain ⟨r, hr, rfl⟩ := iR_of hok c58
            have er : ix (nI r) = r := nI_clamp (by omega)
            refine rb_iload X (pc := 61) dX5_set_61 rfl ?_
            refine rb_if_eq X (pc := 63) (tgt := 79) dX5_set_63 (by decide) (fun c63 => ?_) (fun c63 => absurd (by decide) c63)
            refine rb_aload_n X (pc := 79) dX5_set_79 rfl rfl ?_
            refine rb_ldc X (pc := 80) dX5_set_80 kX5_45 ?_
            refine rc_callVi X (pc := 82) cvX5_finds mX5_74 rb_ob9 (qX5_finds (i := 0) (by decide) (by decide)) (by decide) rfl rfl (Nat.le_of_ble_eq_true rfl) dX5_set_82 ?_
            refine rb_iret (S := []) X (pc := 85) Y dX5_set_85 ?_
            first
            | exact pm_T hM (by rw [r_set, c58, cw, er, ew]; rfl)
            | exact pm_f hM (by rw [r_set, if_neg (fun z => c58 (Bool.and_eq_true_iff.mp z).1), ff_0])
            | exact pm_f hM (by rw [r_set, if_neg (fun z => cw (Bool.and_eq_true_iff.mp z).2), ff_0])
        · (try simp only [sp_b0, Classical.not_not] at c43)
          have cw : (decide (w = 1) && iN v 15 || decide (w = 2) && iN v 99 || decide (w = 3) && iN v 999) = true := by
            rw [iN_e] at c43
            first
            | (subst c17; simp [c43]; done)
            | (subst c28; simp [c43]; done)
            | (subst c29; simp [c43]; done)
          obtain ⟨wn, hw, ewn⟩ := sp_rngL (n := 3) (by decide) (Int32.le_trans (by decide) c9.1) c9.2
          have ew : ix w = wn := by rw [ewn]; exact nI_clamp (by omega)
          refine rb_iconst (v := 1) X (pc := 46) dX5_set_46 (by decide) ?_
          refine rb_goto X (pc := 47) (tgt := 51) dX5_set_47 (by decide) ?_
          refine rb_istore X (pc := 51) dX5_set_51 (by decide) rfl rfl ?_
          refine rb_aload_n X (pc := 53) dX5_set_53 rfl rfl ?_
          refine rb_iload_n X (pc := 54) dX5_set_54 rfl rfl ?_
          refine rc_callVi X (pc := 55) cvX5_isRumour mX5_106 rb_ob9 (qX5_isRumour hn4 hn10 _) (by decide) rfl rfl (Nat.le_of_ble_eq_true rfl) dX5_set_55 ?_
          refine rb_if_eq X (pc := 58) (tgt := 79) dX5_set_58 (by decide) (fun c58 => ?_) (fun c58 => ?_)
          · (try simp only [sp_b0, Classical.not_not] at c58)
            refine rb_aload_n X (pc := 79) dX5_set_79 rfl rfl ?_
            refine rb_ldc X (pc := 80) dX5_set_80 kX5_45 ?_
            refine rc_callVi X (pc := 82) cvX5_finds mX5_74 rb_ob9 (qX5_finds (i := 0) (by decide) (by decide)) (by decide) rfl rfl (Nat.le_of_ble_eq_true rfl) dX5_set_82 ?_
            refine rb_iret (S := []) X (pc := 85) Y dX5_set_85 ?_
            first
            | exact pm_T hM (by rw [r_set, c58, cw, er, ew]; rfl)
            | exact pm_f hM (by rw [r_set, if_neg (fun z => c58 (Bool.and_eq_true_iff.mp z).1), ff_0])
            | exact pm_f hM (by rw [r_set, if_neg (fun z => cw (Bool.and_eq_true_iff.mp z).2), ff_0])
          · (try simp only [sp_b0, Classical.not_not] at c58)
            obtain ⟨r, hr, rfl⟩ := iR_of hok c58
            have er : ix (nI r) = r := nI_clamp (by omega)
            refine rb_iload X (pc := 61) dX5_set_61 rfl ?_
            refine rb_if_eq X (pc := 63) (tgt := 79) dX5_set_63 (by decide) (fun c63 => absurd c63 (by decide)) (fun c63 => ?_)
            refine rb_aload_n X (pc := 66) dX5_set_66 rfl rfl ?_
            refine rb_iload_n X (pc := 67) dX5_set_67 rfl rfl ?_
            refine rb_iload_n X (pc := 68) dX5_set_68 rfl rfl ?_
            rw [ewn]
            refine rc_callSi X (pc := 69) cvX5_spotOf mX5_56 (qX5_spotOf (w := wn)) (by decide) rfl rfl (Nat.le_of_ble_eq_true rfl) dX5_set_69 ?_
            refine rb_iload_n X (pc := 72) dX5_set_72 rfl rfl ?_
            refine rc_callVi X (pc := 73) cvX5_becomes mX5_71 rb_ob9 (qBr (by omega) (by omega)) (by decide) rfl rfl (Nat.le_of_ble_eq_true rfl) dX5_set_73 ?_
            refine rb_goto X (pc := 76) (tgt := 85) dX5_set_76 (by decide) ?_
            refine rb_iret (S := []) X (pc := 85) Y dX5_set_85 ?_
            first
            | exact pm_T hM (by rw [r_set, c58, cw, er, ew]; rfl)
            | exact pm_f hM (by rw [r_set, if_neg (fun z => c58 (Bool.and_eq_true_iff.mp z).1), ff_0])
            | exact pm_f hM (by rw [r_set, if_neg (fun z => cw (Bool.and_eq_true_iff.mp z).2), ff_0])
      · have c28 : w = 2 := by simpa using c28
        refine rb_ldc2 X (pc := 31) dX5_set_31 kX5_115 ?_
        refine rb_goto X (pc := 34) (tgt := 40) dX5_set_34 (by decide) ?_
        refine rc_callSi X (pc := 40) cvX5_in mX5_48 (qJn (a := (0)) (b := (99)) rfl rfl) (by decide) rfl rfl (Nat.le_of_ble_eq_true rfl) dX5_set_40 ?_
        refine rb_if_eq X (pc := 43) (tgt := 50) dX5_set_43 (by decide) (fun c43 => ?_) (fun c43 => ?_)
        · (try simp only [sp_b0, Classical.not_not] at c43)
          have cw : ¬ (decide (w = 1) && iN v 15 || decide (w = 2) && iN v 99 || decide (w = 3) && iN v 999) = true := by
            rw [iN_e] at c43
            first
            | (subst c17; simp [c43]; done)
            | (subst c28; simp [c43]; done)
            | (subst c29; simp [c43]; done)
          refine rb_iconst (v := 0) X (pc := 50) dX5_set_50 (by decide) ?_
          refine rb_istore X (pc := 51) dX5_set_51 (by decide) rfl rfl ?_
          refine rb_aload_n X (pc := 53) dX5_set_53 rfl rfl ?_
          refine rb_iload_n X (pc := 54) dX5_set_54 rfl rfl ?_
          refine rc_callVi X (pc := 55) cvX5_isRumour mX5_106 rb_ob9 (qX5_isRumour hn4 hn10 _) (by decide) rfl rfl (Nat.le_of_ble_eq_true rfl) dX5_set_55 ?_
          refine rb_if_eq X (pc := 58) (tgt := 79) dX5_set_58 (by decide) (fun c58 => ?_) (fun c58 => ?_)
          · (try simp only [sp_b0, Classical.not_not] at c58)
            refine rb_aload_n X (pc := 79) dX5_set_79 rfl rfl ?_
            refine rb_ldc X (pc := 80) dX5_set_80 kX5_45 ?_
            refine rc_callVi X (pc := 82) cvX5_finds mX5_74 rb_ob9 (qX5_finds (i := 0) (by decide) (by decide)) (by decide) rfl rfl (Nat.le_of_ble_eq_true rfl) dX5_set_82 ?_
            refine rb_iret (S := []) X (pc := 85) Y dX5_set_85 ?_
            first
            | exact pm_T hM (by rw [r_set, c58, cw, er, ew]; rfl)
            | exact pm_f hM (by rw [r_set, if_neg (fun z => c58 (Bool.and_eq_true_iff.mp z).1), ff_0])
            | exact pm_f hM (by rw [r_set, if_neg (fun z => cw (Bool.and_eq_true_iff.mp z).2), ff_0])
          · (try simp only [sp_b0, Classical.not_not] at c58)
            obtain ⟨r, hr, rfl⟩ := iR_of hok c58
            have er : ix (nI r) = r := nI_clamp (by omega)
            refine rb_iload X (pc := 61) dX5_set_61 rfl ?_
            refine rb_if_eq X (pc := 63) (tgt := 79) dX5_set_63 (by decide) (fun c63 => ?_) (fun c63 => absurd (by decide) c63)
            refine rb_aload_n X (pc := 79) dX5_set_79 rfl rfl ?_
            refine rb_ldc X (pc := 80) dX5_set_80 kX5_45 ?_
            refine rc_callVi X (pc := 82) cvX5_finds mX5_74 rb_ob9 (qX5_finds (i := 0) (by decide) (by decide)) (by decide) rfl rfl (Nat.le_of_ble_eq_true rfl) dX5_set_82 ?_
            refine rb_iret (S := []) X (pc := 85) Y dX5_set_85 ?_
            first
            | exact pm_T hM (by rw [r_set, c58, cw, er, ew]; rfl)
            | exact pm_f hM (by rw [r_set, if_neg (fun z => c58 (Bool.and_eq_true_iff.mp z).1), ff_0])
            | exact pm_f hM (by rw [r_set, if_neg (fun z => cw (Bool.and_eq_true_iff.mp z).2), ff_0])
        · (try simp only [sp_b0, Classical.not_not] at c43)
          have cw : (decide (w = 1) && iN v 15 || decide (w = 2) && iN v 99 || decide (w = 3) && iN v 999) = true := by
            rw [iN_e] at c43
            first
            | (subst c17; simp [c43]; done)
            | (subst c28; simp [c43]; done)
            | (subst c29; simp [c43]; done)
          obtain ⟨wn, hw, ewn⟩ := sp_rngL (n := 3) (by decide) (Int32.le_trans (by decide) c9.1) c9.2
          have ew : ix w = wn := by rw [ewn]; exact nI_clamp (by omega)
          refine rb_iconst (v := 1) X (pc := 46) dX5_set_46 (by decide) ?_
          refine rb_goto X (pc := 47) (tgt := 51) dX5_set_47 (by decide) ?_
          refine rb_istore X (pc := 51) dX5_set_51 (by decide) rfl rfl ?_
          refine rb_aload_n X (pc := 53) dX5_set_53 rfl rfl ?_
          refine rb_iload_n X (pc := 54) dX5_set_54 rfl rfl ?_
          refine rc_callVi X (pc := 55) cvX5_isRumour mX5_106 rb_ob9 (qX5_isRumour hn4 hn10 _) (by decide) rfl rfl (Nat.le_of_ble_eq_true rfl) dX5_set_55 ?_
          refine rb_if_eq X (pc := 58) (tgt := 79) dX5_set_58 (by decide) (fun c58 => ?_) (fun c58 => ?_)
          · (try simp only [sp_b0, Classical.not_not] at c58)
            refine rb_aload_n X (pc := 79) dX5_set_79 rfl rfl ?_
            refine rb_ldc X (pc := 80) dX5_set_80 kX5_45 ?_
            refine rc_callVi X (pc := 82) cvX5_finds mX5_74 rb_ob9 (qX5_finds (i := 0) (by decide) (by decide)) (by decide) rfl rfl (Nat.le_of_ble_eq_true rfl) dX5_set_82 ?_
            refine rb_iret (S := []) X (pc := 85) Y dX5_set_85 ?_
            first
            | exact pm_T hM (by rw [r_set, c58, cw, er, ew]; rfl)
            | exact pm_f hM (by rw [r_set, if_neg (fun z => c58 (Bool.and_eq_true_iff.mp z).1), ff_0])
            | exact pm_f hM (by rw [r_set, if_neg (fun z => cw (Bool.and_eq_true_iff.mp z).2), ff_0])
          · (try simp only [sp_b0, Classical.not_not] at c58)
            obtain ⟨r, hr, rfl⟩ := iR_of hok c58
            have er : ix (nI r) = r := nI_clamp (by omega)
            refine rb_iload X (pc := 61) dX5_set_61 rfl ?_
            refine rb_if_eq X (pc := 63) (tgt := 79) dX5_set_63 (by decide) (fun c63 => absurd c63 (by decide)) (fun c63 => ?_)
            refine rb_aload_n X (pc := 66) dX5_set_66 rfl rfl ?_
            refine rb_iload_n X (pc := 67) dX5_set_67 rfl rfl ?_
            refine rb_iload_n X (pc := 68) dX5_set_68 rfl rfl ?_
            rw [ewn]
            refine rc_callSi X (pc := 69) cvX5_spotOf mX5_56 (qX5_spotOf (w := wn)) (by decide) rfl rfl (Nat.le_of_ble_eq_true rfl) dX5_set_69 ?_
            refine rb_iload_n X (pc := 72) dX5_set_72 rfl rfl ?_
            refine rc_callVi X (pc := 73) cvX5_becomes mX5_71 rb_ob9 (qBr (by omega) (by omega)) (by decide) rfl rfl (Nat.le_of_ble_eq_true rfl) dX5_set_73 ?_
            refine rb_goto X (pc := 76) (tgt := 85) dX5_set_76 (by decide) ?_
            refine rb_iret (S := []) X (pc := 85) Y dX5_set_85 ?_
            first
            | exact pm_T hM (by rw [r_set, c58, cw, er, ew]; rfl)
            | exact pm_f hM (by rw [r_set, if_neg (fun z => c58 (Bool.and_eq_true_iff.mp z).1), ff_0])
            | exact pm_f hM (by rw [r_set, if_neg (fun z => cw (Bool.and_eq_true_iff.mp z).2), ff_0])
    · have c17 : w = 1 := by simpa using c17
      refine rb_ldc2 X (pc := 20) dX5_set_20 kX5_54 ?_
      refine rb_goto X (pc := 23) (tgt := 40) dX5_set_23 (by decide) ?_
      refine rc_callSi X (pc := 40) cvX5_in mX5_48 (qJn (a := (0)) (b := (15)) rfl rfl) (by decide) rfl rfl (Nat.le_of_ble_eq_true rfl) dX5_set_40 ?_
      refine rb_if_eq X (pc := 43) (tgt := 50) dX5_set_43 (by decide) (fun c43 => ?_) (fun c43 => ?_)
      · (try simp only [sp_b0, Classical.not_not] at c43)
        have cw : ¬ (decide (w = 1) && iN v 15 || decide (w = 2) && iN v 99 || decide (w = 3) && iN v 999) = true := by
          rw [iN_e] at c43
          first
          | (subst c17; simp [c43]; done)
          | (subst c28; simp [c43]; done)
          | (subst c29; simp [c43]; done)
        refine rb_iconst (v := 0) X (pc := 50) dX5_set_50 (by decide) ?_
        refine rb_istore X (pc := 51) dX5_set_51 (by decide) rfl rfl ?_
        refine rb_aload_n X (pc := 53) dX5_set_53 rfl rfl ?_
        refine rb_iload_n X (pc := 54) dX5_set_54 rfl rfl ?_
        refine rc_callVi X (pc := 55) cvX5_isRumour mX5_106 rb_ob9 (qX5_isRumour hn4 hn10 _) (by decide) rfl rfl (Nat.le_of_ble_eq_true rfl) dX5_set_55 ?_
        refine rb_if_eq X (pc := 58) (tgt := 79) dX5_set_58 (by decide) (fun c58 => ?_) (fun c58 => ?_)
        · (try simp only [sp_b0, Classical.not_not] at c58)
          refine rb_aload_n X (pc := 79) dX5_set_79 rfl rfl ?_
          refine rb_ldc X (pc := 80) dX5_set_80 kX5_45 ?_
          refine rc_callVi X (pc := 82) cvX5_finds mX5_74 rb_ob9 (qX5_finds (i := 0) (by decide) (by decide)) (by decide) rfl rfl (Nat.le_of_ble_eq_true rfl) dX5_set_82 ?_
          refine rb_iret (S := []) X (pc := 85) Y dX5_set_85 ?_
          first
          | exact pm_T hM (by rw [r_set, c58, cw, er, ew]; rfl)
          | exact pm_f hM (by rw [r_set, if_neg (fun z => c58 (Bool.and_eq_true_iff.mp z).1), ff_0])
          | exact pm_f hM (by rw [r_set, if_neg (fun z => cw (Bool.and_eq_true_iff.mp z).2), ff_0])
        · (try simp only [sp_b0, Classical.not_not] at c58)
          obtain ⟨r, hr, rfl⟩ := iR_of hok c58
          have er : ix (nI r) = r := nI_clamp (by omega)
          refine rb_iload X (pc := 61) dX5_set_61 rfl ?_
          refine rb_if_eq X (pc := 63) (tgt := 79) dX5_set_63 (by decide) (fun c63 => ?_) (fun c63 => absurd (by decide) c63)
          refine rb_aload_n X (pc := 79) dX5_set_79 rfl rfl ?_
          refine rb_ldc X (pc := 80) dX5_set_80 kX5_45 ?_
          refine rc_callVi X (pc := 82) cvX5_finds mX5_74 rb_ob9 (qX5_finds (i := 0) (by decide) (by decide)) (by decide) rfl rfl (Nat.le_of_ble_eq_true rfl) dX5_set_82 ?_
          refine rb_iret (S := []) X (pc := 85) Y dX5_set_85 ?_
          first
          | exact pm_T hM (by rw [r_set, c58, cw, er, ew]; rfl)
          | exact pm_f hM (by rw [r_set, if_neg (fun z => c58 (Bool.and_eq_true_iff.mp z).1), ff_0])
          | exact pm_f hM (by rw [r_set, if_neg (fun z => cw (Bool.and_eq_true_iff.mp z).2), ff_0])
      · (try simp only [sp_b0, Classical.not_not] at c43)
        have cw : (decide (w = 1) && iN v 15 || decide (w = 2) && iN v 99 || decide (w = 3) && iN v 999) = true := by
          rw [iN_e] at c43
          first
          | (subst c17; simp [c43]; done)
          | (subst c28; simp [c43]; done)
          | (subst c29; simp [c43]; done)
        obtain ⟨wn, hw, ewn⟩ := sp_rngL (n := 3) (by decide) (Int32.le_trans (by decide) c9.1) c9.2
        have ew : ix w = wn := by rw [ewn]; exact nI_clamp (by omega)
        refine rb_iconst (v := 1) X (pc := 46) dX5_set_46 (by decide) ?_
        refine rb_goto X (pc := 47) (tgt := 51) dX5_set_47 (by decide) ?_
        refine rb_istore X (pc := 51) dX5_set_51 (by decide) rfl rfl ?_
        refine rb_aload_n X (pc := 53) dX5_set_53 rfl rfl ?_
        refine rb_iload_n X (pc := 54) dX5_set_54 rfl rfl ?_
        refine rc_callVi X (pc := 55) cvX5_isRumour mX5_106 rb_ob9 (qX5_isRumour hn4 hn10 _) (by decide) rfl rfl (Nat.le_of_ble_eq_true rfl) dX5_set_55 ?_
        refine rb_if_eq X (pc := 58) (tgt := 79) dX5_set_58 (by decide) (fun c58 => ?_) (fun c58 => ?_)
        · (try simp only [sp_b0, Classical.not_not] at c58)
          refine rb_aload_n X (pc := 79) dX5_set_79 rfl rfl ?_
          refine rb_ldc X (pc := 80) dX5_set_80 kX5_45 ?_
          refine rc_callVi X (pc := 82) cvX5_finds mX5_74 rb_ob9 (qX5_finds (i := 0) (by decide) (by decide)) (by decide) rfl rfl (Nat.le_of_ble_eq_true rfl) dX5_set_82 ?_
          refine rb_iret (S := []) X (pc := 85) Y dX5_set_85 ?_
          first
          | exact pm_T hM (by rw [r_set, c58, cw, er, ew]; rfl)
          | exact pm_f hM (by rw [r_set, if_neg (fun z => c58 (Bool.and_eq_true_iff.mp z).1), ff_0])
          | exact pm_f hM (by rw [r_set, if_neg (fun z => cw (Bool.and_eq_true_iff.mp z).2), ff_0])
        · (try simp only [sp_b0, Classical.not_not] at c58)
          obtain ⟨r, hr, rfl⟩ := iR_of hok c58
          have er : ix (nI r) = r := nI_clamp (by omega)
          refine rb_iload X (pc := 61) dX5_set_61 rfl ?_
          refine rb_if_eq X (pc := 63) (tgt := 79) dX5_set_63 (by decide) (fun c63 => absurd c63 (by decide)) (fun c63 => ?_)
          refine rb_aload_n X (pc := 66) dX5_set_66 rfl rfl ?_
          refine rb_iload_n X (pc := 67) dX5_set_67 rfl rfl ?_
          refine rb_iload_n X (pc := 68) dX5_set_68 rfl rfl ?_
          rw [ewn]
          refine rc_callSi X (pc := 69) cvX5_spotOf mX5_56 (qX5_spotOf (w := wn)) (by decide) rfl rfl (Nat.le_of_ble_eq_true rfl) dX5_set_69 ?_
          refine rb_iload_n X (pc := 72) dX5_set_72 rfl rfl ?_
          refine rc_callVi X (pc := 73) cvX5_becomes mX5_71 rb_ob9 (qBr (by omega) (by omega)) (by decide) rfl rfl (Nat.le_of_ble_eq_true rfl) dX5_set_73 ?_
          refine rb_goto X (pc := 76) (tgt := 85) dX5_set_76 (by decide) ?_
          refine rb_iret (S := []) X (pc := 85) Y dX5_set_85 ?_
          first
          | exact pm_T hM (by rw [r_set, c58, cw, er, ew]; rfl)
          | exact pm_f hM (by rw [r_set, if_neg (fun z => c58 (Bool.and_eq_true_iff.mp z).1), ff_0])
          | exact pm_f hM (by rw [r_set, if_neg (fun z => cw (Bool.and_eq_true_iff.mp z).2), ff_0])
set_option maxRecDepth 100000 in
set_option maxHeartbeats 1000000 in
theorem qX5_turn {G : rb_G} {σ : Sg} {h : rb_H} (hS : okS σ) (hM : MI σ h)  (r0 k : Int32) : rb_M G 2 yX5_turn cX5_turn 3 (some .int) [.ref (rb_ad G 9 0), .int r0, .int k] (h) (PM h (r_turn σ r0 k)) := by
  refine rb_meth (L := [.ref (rb_ad G 9 0), .int r0, .int k]) (by decide) (Nat.le_of_ble_eq_true rfl) rfl (fun Z X Y => ?_)
  have X : rb_CX Z G cX5_turn 3 RX5 2 := X
  obtain ⟨h, rfl⟩ : ∃ h0, h = ms h0 (sT σ) := ⟨h, (rb_row_self hM.1).symm⟩
  have hok := hS.1
  have hn4 := hok.1
  have hn10 := hok.2.1
  refine rb_aload_n X (pc := 0) dX5_turn_0 rfl rfl ?_
  refine rb_iload_n X (pc := 1) dX5_turn_1 rfl rfl ?_
  refine rc_callVi X (pc := 2) cvX5_isRumour mX5_106 rb_ob9 (qX5_isRumour hn4 hn10 _) (by decide) rfl rfl (Nat.le_of_ble_eq_true rfl) dX5_turn_2 ?_
  refine rb_if_eq X (pc := 5) (tgt := 28) dX5_turn_5 (by decide) (fun c5 => ?_) (fun c5 => ?_)
  · (try simp only [sp_b0, Classical.not_not] at c5)
    have eR : r_turn σ r0 k = (-1000000001, fnd σ 0) := by simp [r_turn, c5, ff_0]
    refine rb_aload_n X (pc := 28) dX5_turn_28 rfl rfl ?_
    refine rb_ldc X (pc := 29) dX5_turn_29 kX5_45 ?_
    refine rc_callVi X (pc := 31) cvX5_finds mX5_74 rb_ob9 (qX5_finds (i := 0) (by decide) (by decide)) (by decide) rfl rfl (Nat.le_of_ble_eq_true rfl) dX5_turn_31 ?_
    refine rb_iret (S := []) X (pc := 34) Y dX5_turn_34 ?_
    first
    | exact pm_T hM (by simp [r_turn, c5, c12, er])
    | exact pm_f hM eR
  · (try simp only [sp_b0, Classical.not_not] at c5)
    refine rb_iload_n X (pc := 8) dX5_turn_8 rfl rfl ?_
    refine rc_callSi X (pc := 9) cvX5_isKind mX5_96 (qX5_isKind _) (by decide) rfl rfl (Nat.le_of_ble_eq_true rfl) dX5_turn_9 ?_
    refine rb_if_eq X (pc := 12) (tgt := 28) dX5_turn_12 (by decide) (fun c12 => ?_) (fun c12 => ?_)
    · (try simp only [sp_b0, Classical.not_not] at c12)
      have eR : r_turn σ r0 k = (-1000000001, fnd σ 0) := by simp [r_turn, c5, c12, ff_0]
      refine rb_aload_n X (pc := 28) dX5_turn_28 rfl rfl ?_
      refine rb_ldc X (pc := 29) dX5_turn_29 kX5_45 ?_
      refine rc_callVi X (pc := 31) cvX5_finds mX5_74 rb_ob9 (qX5_finds (i := 0) (by decide) (by decide)) (by decide) rfl rfl (Nat.le_of_ble_eq_true rfl) dX5_turn_31 ?_
      refine rb_iret (S := []) X (pc := 34) Y dX5_turn_34 ?_
      first
      | exact pm_T hM (by simp [r_turn, c5, c12, er])
      | exact pm_f hM eR
    · (try simp only [sp_b0, Classical.not_not] at c12)
      obtain ⟨r, hr, rfl⟩ := iR_of hok c5
      have er : ix (nI r) = r := nI_clamp (by omega)
      refine rb_aload_n X (pc := 15) dX5_turn_15 rfl rfl ?_
      refine rb_iload_n X (pc := 16) dX5_turn_16 rfl rfl ?_
      refine rb_iconst (v := 0) X (pc := 17) dX5_turn_17 (by decide) ?_
      refine rc_callSi X (pc := 18) cvX5_spotOf mX5_56 (qX5_spotOf (w := 0)) (by decide) rfl rfl (Nat.le_of_ble_eq_true rfl) dX5_turn_18 ?_
      refine rb_iload_n X (pc := 21) dX5_turn_21 rfl rfl ?_
      refine rc_callVi X (pc := 22) cvX5_becomes mX5_71 rb_ob9 (qBr (w := 0) (by omega) (by decide)) (by decide) rfl rfl (Nat.le_of_ble_eq_true rfl) dX5_turn_22 ?_
      refine rb_goto X (pc := 25) (tgt := 34) dX5_turn_25 (by decide) ?_
      refine rb_iret (S := []) X (pc := 34) Y dX5_turn_34 ?_
      first
      | exact pm_T hM (by simp [r_turn, c5, c12, er])
      | exact pm_f hM eR
set_option maxRecDepth 100000 in
set_option maxHeartbeats 1000000 in
theorem qX5_as {G : rb_G} {σ : Sg} {h : rb_H} (hS : okS σ) (hM : MI σ h)  (r0 k : Int32) : rb_M G 3 yX5_as cX5_as 3 (some .int) [.ref (rb_ad G 9 0), .int r0, .int k] (h) (PM h (r_as σ r0 k)) := by
  refine rb_meth (L := [.ref (rb_ad G 9 0), .int r0, .int k]) (by decide) (Nat.le_of_ble_eq_true rfl) rfl (fun Z X Y => ?_)
  have X : rb_CX Z G cX5_as 3 RX5 3 := X
  obtain ⟨h, rfl⟩ : ∃ h0, h = ms h0 (sT σ) := ⟨h, (rb_row_self hM.1).symm⟩
  have hok := hS.1
  have hn4 := hok.1
  have hn10 := hok.2.1
  refine rb_aload_n X (pc := 0) dX5_as_0 rfl rfl ?_
  refine rb_iload_n X (pc := 1) dX5_as_1 rfl rfl ?_
  refine rc_callVi X (pc := 2) cvX5_isRumour mX5_106 rb_ob9 (qX5_isRumour hn4 hn10 _) (by decide) rfl rfl (Nat.le_of_ble_eq_true rfl) dX5_as_2 ?_
  refine rb_if_eq X (pc := 5) (tgt := 15) dX5_as_5 (by decide) (fun c5 => ?_) (fun c5 => ?_)
  · (try simp only [sp_b0, Classical.not_not] at c5)
    refine rb_aload_n X (pc := 15) dX5_as_15 rfl rfl ?_
    refine rb_ldc X (pc := 16) dX5_as_16 kX5_45 ?_
    refine rc_callVi X (pc := 18) cvX5_finds mX5_74 rb_ob9 (qX5_finds (i := 0) (by decide) (by decide)) (by decide) rfl rfl (Nat.le_of_ble_eq_true rfl) dX5_as_18 ?_
    refine rb_iret (S := []) X (pc := 21) Y dX5_as_21 ?_
    exact pm_f hM (by simp [r_as, ff_0, *]; done)
  · (try simp only [sp_b0, Classical.not_not] at c5)
    refine rb_iload_n X (pc := 8) dX5_as_8 rfl rfl ?_
    refine rc_callSi X (pc := 9) cvX5_isKind mX5_96 (qX5_isKind _) (by decide) rfl rfl (Nat.le_of_ble_eq_true rfl) dX5_as_9 ?_
    refine rb_if_ne X (pc := 12) (tgt := 22) dX5_as_12 (by decide) (fun c12 => ?_) (fun c12 => ?_)
    · (try simp only [sp_b0, Classical.not_not] at c12)
      obtain ⟨r, hr, rfl⟩ := iR_of hok c5
      have er : ix (nI r) = r := nI_clamp (by omega)
      refine rb_aload_n X (pc := 22) dX5_as_22 rfl rfl ?_
      refine rb_iload_n X (pc := 23) dX5_as_23 rfl rfl ?_
      refine rb_iconst (v := 0) X (pc := 24) dX5_as_24 (by decide) ?_
      refine rc_callVi X (pc := 25) cvX5_its mX5_78 rb_ob9 (qI0 (by omega)) (by decide) rfl rfl (Nat.le_of_ble_eq_true rfl) dX5_as_25 ?_
      refine rb_iload_n X (pc := 28) dX5_as_28 rfl rfl ?_
      refine rc_callSi X (pc := 29) cvX5_isUnder mX5_117 (qX5_isUnder _ _) (by decide) rfl rfl (Nat.le_of_ble_eq_true rfl) dX5_as_29 ?_
      refine rb_if_eq X (pc := 32) (tgt := 44) dX5_as_32 (by decide) (fun c32 => ?_) (fun c32 => ?_)
      · (try simp only [sp_b0, Classical.not_not] at c32)
        refine rb_aload_n X (pc := 44) dX5_as_44 rfl rfl ?_
        refine rb_ldc X (pc := 45) dX5_as_45 kX5_121 ?_
        refine rc_callVi X (pc := 47) cvX5_finds mX5_74 rb_ob9 (qX5_finds (i := 2) (by decide) (by decide)) (by decide) rfl rfl (Nat.le_of_ble_eq_true rfl) dX5_as_47 ?_
        refine rb_iret (S := []) X (pc := 50) Y dX5_as_50 ?_
        first
        | exact pm_0 hM (by simp [r_as, c5, c12, er, c32]; done)
        | exact pm_f hM (by simp [r_as, c5, c12, er, c32, ff_2]; done)
      · (try simp only [sp_b0, Classical.not_not] at c32)
        refine rb_aload_n X (pc := 35) dX5_as_35 rfl rfl ?_
        refine rb_iload_n X (pc := 36) dX5_as_36 rfl rfl ?_
        refine rb_iconst (v := 2) X (pc := 37) dX5_as_37 (by decide) ?_
        refine rc_callVi X (pc := 38) cvX5_its mX5_78 rb_ob9 (qI2 (by omega)) (by decide) rfl rfl (Nat.le_of_ble_eq_true rfl) dX5_as_38 ?_
        refine rb_goto X (pc := 41) (tgt := 50) dX5_as_41 (by decide) ?_
        refine rb_iret (S := []) X (pc := 50) Y dX5_as_50 ?_
        first
        | exact pm_0 hM (by simp [r_as, c5, c12, er, c32]; done)
        | exact pm_f hM (by simp [r_as, c5, c12, er, c32, ff_2]; done)
    · (try simp only [sp_b0, Classical.not_not] at c12)
      refine rb_aload_n X (pc := 15) dX5_as_15 rfl rfl ?_
      refine rb_ldc X (pc := 16) dX5_as_16 kX5_45 ?_
      refine rc_callVi X (pc := 18) cvX5_finds mX5_74 rb_ob9 (qX5_finds (i := 0) (by decide) (by decide)) (by decide) rfl rfl (Nat.le_of_ble_eq_true rfl) dX5_as_18 ?_
      refine rb_iret (S := []) X (pc := 21) Y dX5_as_21 ?_
      exact pm_f hM (by simp [r_as, ff_0, *]; done)
set_option maxRecDepth 100000 in
set_option maxHeartbeats 1000000 in
theorem qX5_takes {G : rb_G} {σ : Sg} {h : rb_H} (hS : okS σ) (hM : MI σ h)  (a r0 : Int32) : rb_M G 5 yX5_takes cX5_takes 3 (some .int) [.ref (rb_ad G 9 0), .int a, .int r0] (h) (PM h (r_takes σ a r0)) := by
  refine rb_meth (L := [.ref (rb_ad G 9 0), .int a, .int r0]) (by decide) (Nat.le_of_ble_eq_true rfl) rfl (fun Z X Y => ?_)
  have X : rb_CX Z G cX5_takes 3 RX5 5 := X
  obtain ⟨h, rfl⟩ : ∃ h0, h = ms h0 (sT σ) := ⟨h, (rb_row_self hM.1).symm⟩
  have hok := hS.1
  have hn4 := hok.1
  have hn10 := hok.2.1
  refine rb_iload_n X (pc := 0) dX5_takes_0 rfl rfl ?_
  refine rc_callSi X (pc := 1) cvX5_isHouse mX5_67 (qX5_isHouse _) (by decide) rfl rfl (Nat.le_of_ble_eq_true rfl) dX5_takes_1 ?_
  refine rb_if_eq X (pc := 4) (tgt := 15) dX5_takes_4 (by decide) (fun c4 => ?_) (fun c4 => ?_)
  · (try simp only [sp_b0, Classical.not_not] at c4)
    refine rb_aload_n X (pc := 15) dX5_takes_15 rfl rfl ?_
    refine rb_ldc X (pc := 16) dX5_takes_16 kX5_45 ?_
    refine rc_callVi X (pc := 18) cvX5_finds mX5_74 rb_ob9 (qX5_finds (i := 0) (by decide) (by decide)) (by decide) rfl rfl (Nat.le_of_ble_eq_true rfl) dX5_takes_18 ?_
    refine rb_iret (S := []) X (pc := 21) Y dX5_takes_21 ?_
    exact pm_f hM (by simp [r_takes, ff_0, *]; done)
  · (try simp only [sp_b0, Classical.not_not] at c4)
    refine rb_aload_n X (pc := 7) dX5_takes_7 rfl rfl ?_
    refine rb_iload_n X (pc := 8) dX5_takes_8 rfl rfl ?_
    refine rc_callVi X (pc := 9) cvX5_isRumour mX5_106 rb_ob9 (qX5_isRumour hn4 hn10 _) (by decide) rfl rfl (Nat.le_of_ble_eq_true rfl) dX5_takes_9 ?_
    refine rb_if_ne X (pc := 12) (tgt := 22) dX5_takes_12 (by decide) (fun c12 => ?_) (fun c12 => ?_)
    · (try simp only [sp_b0, Classical.not_not] at c12)
      obtain ⟨q, hq, rfl⟩ := iH_of c4
      have eq1 : ix (nI q) = q := nI_clamp (by omega)
      obtain ⟨r, hr, rfl⟩ := iR_of hok c12
      have er : ix (nI r) = r := nI_clamp (by omega)
      refine rb_aload_n X (pc := 22) dX5_takes_22 rfl rfl ?_
      refine rb_iload_n X (pc := 23) dX5_takes_23 rfl rfl ?_
      refine rb_iload_n X (pc := 24) dX5_takes_24 rfl rfl ?_
      refine rc_callVi X (pc := 25) cvX5_isTaken mX5_128 rb_ob9 (qX5_isTaken hn4 hn10 (by omega) (by omega)) (by decide) rfl rfl (Nat.le_of_ble_eq_true rfl) dX5_takes_25 ?_
      refine rb_if_eq X (pc := 28) (tgt := 35) dX5_takes_28 (by decide) (fun c28 => ?_) (fun c28 => ?_)
      · (try simp only [sp_b0, Classical.not_not] at c28)
        refine rb_iconst (v := 0) X (pc := 35) dX5_takes_35 (by decide) ?_
        refine rb_iret (S := []) X (pc := 36) Y dX5_takes_36 ?_
        exact pm_0 hM (by simp only [r_takes, c4, c12, eq1, er]; simp [c28])
      · (try simp only [sp_b0, Classical.not_not] at c28)
        refine rb_iconst (v := 1) X (pc := 31) dX5_takes_31 (by decide) ?_
        refine rb_goto X (pc := 32) (tgt := 36) dX5_takes_32 (by decide) ?_
        refine rb_iret (S := []) X (pc := 36) Y dX5_takes_36 ?_
        exact pm_0 hM (by simp only [r_takes, c4, c12, eq1, er]; simp [c28])
    · (try simp only [sp_b0, Classical.not_not] at c12)
      refine rb_aload_n X (pc := 15) dX5_takes_15 rfl rfl ?_
      refine rb_ldc X (pc := 16) dX5_takes_16 kX5_45 ?_
      refine rc_callVi X (pc := 18) cvX5_finds mX5_74 rb_ob9 (qX5_finds (i := 0) (by decide) (by decide)) (by decide) rfl rfl (Nat.le_of_ble_eq_true rfl) dX5_takes_18 ?_
      refine rb_iret (S := []) X (pc := 21) Y dX5_takes_21 ?_
      exact pm_f hM (by simp [r_takes, ff_0, *]; done)
set_option maxRecDepth 100000 in
set_option maxHeartbeats 1000000 in
theorem qX5_comeIn {G : rb_G} {σ : Sg} {h : rb_H} (hS : okS σ) (hM : MI σ h)  (r0 : Int32) : rb_M G 6 yX5_comeIn cX5_comeIn 2 (some .int) [.ref (rb_ad G 9 0), .int r0] (h) (PM h (r_comeIn σ r0)) := by
  refine rb_meth (L := [.ref (rb_ad G 9 0), .int r0]) (by decide) (Nat.le_of_ble_eq_true rfl) rfl (fun Z X Y => ?_)
  have X : rb_CX Z G cX5_comeIn 2 RX5 6 := X
  obtain ⟨h, rfl⟩ : ∃ h0, h = ms h0 (sT σ) := ⟨h, (rb_row_self hM.1).symm⟩
  have hok := hS.1
  have hn4 := hok.1
  have hn10 := hok.2.1
  refine rb_aload_n X (pc := 0) dX5_comeIn_0 rfl rfl ?_
  refine rb_iload_n X (pc := 1) dX5_comeIn_1 rfl rfl ?_
  refine rc_callVi X (pc := 2) cvX5_isRumour mX5_106 rb_ob9 (qX5_isRumour hn4 hn10 _) (by decide) rfl rfl (Nat.le_of_ble_eq_true rfl) dX5_comeIn_2 ?_
  refine rb_if_ne X (pc := 5) (tgt := 15) dX5_comeIn_5 (by decide) (fun c5 => ?_) (fun c5 => ?_)
  · (try simp only [sp_b0, Classical.not_not] at c5)
    obtain ⟨r, hr, rfl⟩ := iR_of hok c5
    have er : ix (nI r) = r := nI_clamp (by omega)
    obtain ⟨e, he, ee⟩ := (hok.2.2.1 r (by omega)).2.1
    refine rb_aload_n X (pc := 15) dX5_comeIn_15 rfl rfl ?_
    refine rb_iload_n X (pc := 16) dX5_comeIn_16 rfl rfl ?_
    refine rb_iconst (v := 4) X (pc := 17) dX5_comeIn_17 (by decide) ?_
    refine rc_callVi X (pc := 18) cvX5_its mX5_78 rb_ob9 (qI4 (by omega)) (by decide) rfl rfl (Nat.le_of_ble_eq_true rfl) dX5_comeIn_18 ?_
    refine rb_iconst (v := (-1)) X (pc := 21) dX5_comeIn_21 (by decide) ?_
    refine rb_icmp_ne X (pc := 22) (tgt := 38) dX5_comeIn_22 (by decide) (fun c22 => ?_) (fun c22 => ?_)
    · have eR : r_comeIn σ (nI r) = (-1000000005, fnd σ 4) := by simp [r_comeIn, c5, er, c22, ff_4]
      refine rb_aload_n X (pc := 38) dX5_comeIn_38 rfl rfl ?_
      refine rb_ldc X (pc := 39) dX5_comeIn_39 kX5_134 ?_
      refine rc_callVi X (pc := 41) cvX5_finds mX5_74 rb_ob9 (qX5_finds (i := 4) (by decide) (by decide)) (by decide) rfl rfl (Nat.le_of_ble_eq_true rfl) dX5_comeIn_41 ?_
      refine rb_iret (S := []) X (pc := 44) Y dX5_comeIn_44 ?_
      exact pm_f hM eR
    · have c22 : sT σ 9 r = -1 := by simpa using c22
      refine rb_aload_n X (pc := 25) dX5_comeIn_25 rfl rfl ?_
      refine rb_aload_n X (pc := 26) dX5_comeIn_26 rfl rfl ?_
      refine rb_iload_n X (pc := 27) dX5_comeIn_27 rfl rfl ?_
      refine rb_iconst (v := 1) X (pc := 28) dX5_comeIn_28 (by decide) ?_
      refine rc_callVi X (pc := 29) cvX5_its mX5_78 rb_ob9 (qI1 (by omega)) (by decide) rfl rfl (Nat.le_of_ble_eq_true rfl) dX5_comeIn_29 ?_
      rw [ee]
      refine rc_callVi X (pc := 32) cvX5_isTrue mX5_131 rb_ob9 (qX5_isTrue he) (by decide) rfl rfl (Nat.le_of_ble_eq_true rfl) dX5_comeIn_32 ?_
      refine rb_if_eq X (pc := 35) (tgt := 45) dX5_comeIn_35 (by decide) (fun c35 => ?_) (fun c35 => ?_)
      · (try simp only [sp_b0, Classical.not_not] at c35)
        have c35 : ¬ sp_tr (sT σ) (nI e) := fun z => z c35
        have eh : sp_host (sT σ) r = sp_hostF (sT σ) (sp_nR (sT σ) r) 8 := by unfold sp_host; rw [ee, if_neg c35]
        refine rb_aload_n X (pc := 45) dX5_comeIn_45 rfl rfl ?_
        refine rc_getR X (pc := 46) fX5_7 rb_ob9 rfl dX5_comeIn_46 ?_
        refine rb_iload_n X (pc := 49) dX5_comeIn_49 rfl rfl ?_
        refine rb_iconst (v := 4) X (pc := 50) dX5_comeIn_50 (by decide) ?_
        refine rc_callSi X (pc := 51) cvX5_spotOf mX5_56 (qX5_spotOf (w := 4)) (by decide) rfl rfl (Nat.le_of_ble_eq_true rfl) dX5_comeIn_51 ?_
        refine rb_aload_n X (pc := 54) dX5_comeIn_54 rfl rfl ?_
        refine rb_iload_n X (pc := 55) dX5_comeIn_55 rfl rfl ?_
        refine rc_callVi X (pc := 56) cvX5_hostOf mX5_135 rb_ob9 (qX5_hostOf hn4 hn10 (by omega)) (by decide) rfl rfl (Nat.le_of_ble_eq_true rfl) dX5_comeIn_56 ?_
        refine rc_iast X (pc := 59) _ rb_ar9_0 (ms_r4 (by omega)) rfl (by omega) dX5_comeIn_59 ?_
        refine rb_aload_n X (pc := 60) dX5_comeIn_60 rfl rfl ?_
        refine rb_iload_n X (pc := 61) dX5_comeIn_61 rfl rfl ?_
        refine rb_iconst (v := 4) X (pc := 62) dX5_comeIn_62 (by decide) ?_
        refine rc_callVi X (pc := 63) cvX5_its mX5_78 rb_ob9 (qI4 (by omega)) (by decide) rfl rfl (Nat.le_of_ble_eq_true rfl) dX5_comeIn_63 ?_
        refine rb_iret (S := []) X (pc := 66) Y dX5_comeIn_66 ?_
        exact pm_T hM (by rw [r_comeIn, if_pos c5, er, ee, if_neg (fun z => z.elim (fun w => w c22) c35), eh, u2_same])
      · (try simp only [sp_b0, Classical.not_not] at c35)
        have c35 : sp_tr (sT σ) (nI e) := c35
        have eR : r_comeIn σ (nI r) = (-1000000005, fnd σ 4) := by rw [r_comeIn, if_pos c5, er, ee, if_pos (Or.inr c35), ff_4]
        refine rb_aload_n X (pc := 38) dX5_comeIn_38 rfl rfl ?_
        refine rb_ldc X (pc := 39) dX5_comeIn_39 kX5_134 ?_
        refine rc_callVi X (pc := 41) cvX5_finds mX5_74 rb_ob9 (qX5_finds (i := 4) (by decide) (by decide)) (by decide) rfl rfl (Nat.le_of_ble_eq_true rfl) dX5_comeIn_41 ?_
        refine rb_iret (S := []) X (pc := 44) Y dX5_comeIn_44 ?_
        exact pm_f hM eR
  · (try simp only [sp_b0, Classical.not_not] at c5)
    refine rb_aload_n X (pc := 8) dX5_comeIn_8 rfl rfl ?_
    refine rb_ldc X (pc := 9) dX5_comeIn_9 kX5_45 ?_
    refine rc_callVi X (pc := 11) cvX5_finds mX5_74 rb_ob9 (qX5_finds (i := 0) (by decide) (by decide)) (by decide) rfl rfl (Nat.le_of_ble_eq_true rfl) dX5_comeIn_11 ?_
    refine rb_iret (S := []) X (pc := 14) Y dX5_comeIn_14 ?_
    exact pm_f hM (by simp [r_comeIn, ff_0, *]; done)
set_option maxRecDepth 100000 in
set_option maxHeartbeats 1000000 in
theorem qX5_improve {G : rb_G} {σ : Sg} {h : rb_H} (hS : okS σ) (hM : MI σ h)  (r0 v0 : Int32) : rb_M G 6 yX5_improve cX5_improve 3 (some .int) [.ref (rb_ad G 9 0), .int r0, .int v0] (h) (PM h (r_improve σ r0 v0)) := by
  refine rb_meth (L := [.ref (rb_ad G 9 0), .int r0, .int v0]) (by decide) (Nat.le_of_ble_eq_true rfl) rfl (fun Z X Y => ?_)
  have X : rb_CX Z G cX5_improve 3 RX5 6 := X
  obtain ⟨h, rfl⟩ : ∃ h0, h = ms h0 (sT σ) := ⟨h, (rb_row_self hM.1).symm⟩
  have hok := hS.1
  have hn4 := hok.1
  have hn10 := hok.2.1
  refine rb_aload_n X (pc := 0) dX5_improve_0 rfl rfl ?_
  refine rb_iload_n X (pc := 1) dX5_improve_1 rfl rfl ?_
  refine rc_callVi X (pc := 2) cvX5_isRumour mX5_106 rb_ob9 (qX5_isRumour hn4 hn10 _) (by decide) rfl rfl (Nat.le_of_ble_eq_true rfl) dX5_improve_2 ?_
  refine rb_if_eq X (pc := 5) (tgt := 20) dX5_improve_5 (by decide) (fun c5 => ?_) (fun c5 => ?_)
  · (try simp only [sp_b0, Classical.not_not] at c5)
    have eR : r_improve σ r0 v0 = (-1000000001, fnd σ 0) := by simp [r_improve, c5, ff_0]
    refine rb_aload_n X (pc := 20) dX5_improve_20 rfl rfl ?_
    refine rb_ldc X (pc := 21) dX5_improve_21 kX5_45 ?_
    refine rc_callVi X (pc := 23) cvX5_finds mX5_74 rb_ob9 (qX5_finds (i := 0) (by decide) (by decide)) (by decide) rfl rfl (Nat.le_of_ble_eq_true rfl) dX5_improve_23 ?_
    refine rb_iret (S := []) X (pc := 26) Y dX5_improve_26 ?_
    exact pm_f hM eR
  · (try simp only [sp_b0, Classical.not_not] at c5)
    refine rb_iload_n X (pc := 8) dX5_improve_8 rfl rfl ?_
    refine rb_i2l X (pc := 9) dX5_improve_9 ?_
    refine rb_lconst (v := 1) X (pc := 10) dX5_improve_10 (by decide) ?_
    refine rb_ldc2 X (pc := 11) dX5_improve_11 kX5_141 ?_
    refine rc_callSi X (pc := 14) cvX5_in mX5_48 (qJn (a := (1)) (b := (20)) rfl rfl) (by decide) rfl rfl (Nat.le_of_ble_eq_true rfl) dX5_improve_14 ?_
    refine rb_if_ne X (pc := 17) (tgt := 27) dX5_improve_17 (by decide) (fun c17 => ?_) (fun c17 => ?_)
    · (try simp only [sp_b0, Classical.not_not] at c17)
      obtain ⟨r, hr, rfl⟩ := iR_of hok c5
      have er : ix (nI r) = r := nI_clamp (by omega)
      have cV := iV_e.mp c17
      obtain ⟨v, hv1, hv2, rfl⟩ := iV_of (n := 20) (by decide) cV
      refine rb_aload_n X (pc := 27) dX5_improve_27 rfl rfl ?_
      refine rb_iload_n X (pc := 28) dX5_improve_28 rfl rfl ?_
      refine rb_iconst (v := 4) X (pc := 29) dX5_improve_29 (by decide) ?_
      refine rc_callVi X (pc := 30) cvX5_its mX5_78 rb_ob9 (qI4 (by omega)) (by decide) rfl rfl (Nat.le_of_ble_eq_true rfl) dX5_improve_30 ?_
      refine rb_iconst (v := (-1)) X (pc := 33) dX5_improve_33 (by decide) ?_
      refine rb_icmp_ne X (pc := 34) (tgt := 44) dX5_improve_34 (by decide) (fun c34 => ?_) (fun c34 => ?_)
      · obtain ⟨p, hp1, hp⟩ := sp_pl_ne (hok.2.2.1 r (by omega)).2.2.2.2 c34
        refine rb_aload_n X (pc := 44) dX5_improve_44 rfl rfl ?_
        refine rb_iload_n X (pc := 45) dX5_improve_45 rfl rfl ?_
        refine rb_iload_n X (pc := 46) dX5_improve_46 rfl rfl ?_
        refine rc_callVv X (pc := 47) cvX5_isImproved mX5_143 rb_ob9 (qX5_isImproved hn4 hn10 (by omega) hp1 hp) (by decide) rfl rfl (Nat.le_of_ble_eq_true rfl) dX5_improve_47 ?_
        refine rb_aload_n X (pc := 50) dX5_improve_50 rfl rfl ?_
        refine rb_iload_n X (pc := 51) dX5_improve_51 rfl rfl ?_
        refine rb_iconst (v := 4) X (pc := 52) dX5_improve_52 (by decide) ?_
        refine rc_callVi X (pc := 53) cvX5_its mX5_78 rb_ob9 (qI4 (by omega)) (by decide) rfl rfl (Nat.le_of_ble_eq_true rfl) dX5_improve_53 ?_
        refine rb_iret (S := []) X (pc := 56) Y dX5_improve_56 ?_
        exact pm_T hM (by rw [r_improve, c5, cV, er, if_neg c34]; rfl)
      · have c34 : sT σ 9 r = -1 := by simpa using c34
        refine rb_aload_n X (pc := 37) dX5_improve_37 rfl rfl ?_
        refine rb_ldc X (pc := 38) dX5_improve_38 kX5_134 ?_
        refine rc_callVi X (pc := 40) cvX5_finds mX5_74 rb_ob9 (qX5_finds (i := 4) (by decide) (by decide)) (by decide) rfl rfl (Nat.le_of_ble_eq_true rfl) dX5_improve_40 ?_
        refine rb_iret (S := []) X (pc := 43) Y dX5_improve_43 ?_
        exact pm_f hM (by rw [r_improve, c5, cV, er, if_pos c34, ff_4]; rfl)
    · (try simp only [sp_b0, Classical.not_not] at c17)
      have cV : ¬ iV v0 20 = true := fun z => c17 (iV_e.mpr z)
      have eR : r_improve σ r0 v0 = (-1000000001, fnd σ 0) := by simp [r_improve, c5, cV, ff_0]
      refine rb_aload_n X (pc := 20) dX5_improve_20 rfl rfl ?_
      refine rb_ldc X (pc := 21) dX5_improve_21 kX5_45 ?_
      refine rc_callVi X (pc := 23) cvX5_finds mX5_74 rb_ob9 (qX5_finds (i := 0) (by decide) (by decide)) (by decide) rfl rfl (Nat.le_of_ble_eq_true rfl) dX5_improve_23 ?_
      refine rb_iret (S := []) X (pc := 26) Y dX5_improve_26 ?_
      exact pm_f hM eR
set_option maxRecDepth 100000 in
set_option maxHeartbeats 1000000 in
theorem qX5_comesTrue {G : rb_G} {σ : Sg} {h : rb_H} (hS : okS σ) (hM : MI σ h)  (e : Int32) : rb_M G 3 yX5_comesTrue cX5_comesTrue 2 (some .int) [.ref (rb_ad G 9 0), .int e] (h) (PM h (r_comesTrue σ e)) := by
  refine rb_meth (L := [.ref (rb_ad G 9 0), .int e]) (by decide) (Nat.le_of_ble_eq_true rfl) rfl (fun Z X Y => ?_)
  have X : rb_CX Z G cX5_comesTrue 2 RX5 3 := X
  obtain ⟨h, rfl⟩ : ∃ h0, h = ms h0 (sT σ) := ⟨h, (rb_row_self hM.1).symm⟩
  have hok := hS.1
  have hn4 := hok.1
  have hn10 := hok.2.1
  refine rb_iload_n X (pc := 0) dX5_comesTrue_0 rfl rfl ?_
  refine rc_callSi X (pc := 1) cvX5_isEvent mX5_99 (qX5_isEvent _) (by decide) rfl rfl (Nat.le_of_ble_eq_true rfl) dX5_comesTrue_1 ?_
  refine rb_if_eq X (pc := 4) (tgt := 15) dX5_comesTrue_4 (by decide) (fun c4 => ?_) (fun c4 => ?_)
  · (try simp only [sp_b0, Classical.not_not] at c4)
    refine rb_aload_n X (pc := 15) dX5_comesTrue_15 rfl rfl ?_
    refine rb_ldc X (pc := 16) dX5_comesTrue_16 kX5_45 ?_
    refine rc_callVi X (pc := 18) cvX5_finds mX5_74 rb_ob9 (qX5_finds (i := 0) (by decide) (by decide)) (by decide) rfl rfl (Nat.le_of_ble_eq_true rfl) dX5_comesTrue_18 ?_
    refine rb_iret (S := []) X (pc := 21) Y dX5_comesTrue_21 ?_
    first
    | exact pm_T hM (by simp [r_comesTrue, c4]; done)
    | exact pm_f hM (by simp [r_comesTrue, c4, ff_0]; done)
  · (try simp only [sp_b0, Classical.not_not] at c4)
    refine rb_aload_n X (pc := 7) dX5_comesTrue_7 rfl rfl ?_
    refine rb_iload_n X (pc := 8) dX5_comesTrue_8 rfl rfl ?_
    refine rc_callVi X (pc := 9) cvX5_becomesTrue mX5_147 rb_ob9 (qX5_becomesTrue hn4 hn10 _) (by decide) rfl rfl (Nat.le_of_ble_eq_true rfl) dX5_comesTrue_9 ?_
    refine rb_goto X (pc := 12) (tgt := 21) dX5_comesTrue_12 (by decide) ?_
    refine rb_iret (S := []) X (pc := 21) Y dX5_comesTrue_21 ?_
    first
    | exact pm_T hM (by simp [r_comesTrue, c4]; done)
    | exact pm_f hM (by simp [r_comesTrue, c4, ff_0]; done)
set_option maxRecDepth 100000 in
set_option maxHeartbeats 1000000 in
theorem qX5_forget {G : rb_G} {σ : Sg} {h : rb_H} (hS : okS σ) (hM : MI σ h)  (e0 : Int32) : rb_M G 2 yX5_forget cX5_forget 3 (some .int) [.ref (rb_ad G 9 0), .int e0] (h) (PM h (r_forget σ e0)) := by
  refine rb_meth (L := [.ref (rb_ad G 9 0), .int e0, .null]) (by decide) (Nat.le_of_ble_eq_true rfl) rfl (fun Z X Y => ?_)
  have X : rb_CX Z G cX5_forget 3 RX5 2 := X
  obtain ⟨h, rfl⟩ : ∃ h0, h = ms h0 (sT σ) := ⟨h, (rb_row_self hM.1).symm⟩
  have hok := hS.1
  have hn4 := hok.1
  have hn10 := hok.2.1
  refine rb_iload_n X (pc := 0) dX5_forget_0 rfl rfl ?_
  refine rc_callSi X (pc := 1) cvX5_isEvent mX5_99 (qX5_isEvent _) (by decide) rfl rfl (Nat.le_of_ble_eq_true rfl) dX5_forget_1 ?_
  refine rb_if_ne X (pc := 4) (tgt := 14) dX5_forget_4 (by decide) (fun c4 => ?_) (fun c4 => ?_)
  · (try simp only [sp_b0, Classical.not_not] at c4)
    obtain ⟨e, he, rfl⟩ := iE_of c4
    refine rb_aload_n X (pc := 14) dX5_forget_14 rfl rfl ?_
    refine rb_iload_n X (pc := 15) dX5_forget_15 rfl rfl ?_
    refine rc_callVi X (pc := 16) cvX5_isTrue mX5_131 rb_ob9 (qX5_isTrue he) (by decide) rfl rfl (Nat.le_of_ble_eq_true rfl) dX5_forget_16 ?_
    refine rb_if_eq X (pc := 19) (tgt := 26) dX5_forget_19 (by decide) (fun c19 => ?_) (fun c19 => ?_)
    · (try simp only [sp_b0, Classical.not_not] at c19)
      have c19 : ¬ sp_tr (sT σ) (nI e) := fun z => z c19
      refine rb_iconst (v := 0) X (pc := 26) dX5_forget_26 (by decide) ?_
      refine rb_istore_n X (pc := 27) dX5_forget_27 rfl (by decide) rfl rfl ?_
      refine rb_aload_n X (pc := 28) dX5_forget_28 rfl rfl ?_
      refine rc_getR X (pc := 29) fX5_7 rb_ob9 rfl dX5_forget_29 ?_
      refine rb_iconst (v := 2) X (pc := 32) dX5_forget_32 (by decide) ?_
      refine rb_dup2 X (pc := 33) dX5_forget_33 rfl rfl ?_
      refine rc_ialdv X (pc := 34) 2 rb_ar9_0 ms_2 rfl (by decide) dX5_forget_34 ?_
      refine rb_iconst (v := 1) X (pc := 35) dX5_forget_35 (by decide) ?_
      refine rb_iload_n X (pc := 36) dX5_forget_36 rfl rfl ?_
      refine rb_ishl X (pc := 37) dX5_forget_37 ?_
      refine rb_iconst (v := (-1)) X (pc := 38) dX5_forget_38 (by decide) ?_
      refine rb_ixor X (pc := 39) dX5_forget_39 ?_
      refine rb_iand X (pc := 40) dX5_forget_40 ?_
      refine rc_iast X (pc := 41) 2 rb_ar9_0 ms_u2 rfl (by decide) dX5_forget_41 ?_
      refine rb_iload_n X (pc := 42) dX5_forget_42 rfl rfl ?_
      refine rb_iret (S := []) X (pc := 43) Y dX5_forget_43 ?_
      first
      | exact pm_T hM (by rw [r_forget, if_pos c4, if_pos c19])
      | exact pm_T hM (by rw [r_forget, if_pos c4, if_neg c19])
    · (try simp only [sp_b0, Classical.not_not] at c19)
      have c19 : sp_tr (sT σ) (nI e) := c19
      refine rb_iconst (v := 1) X (pc := 22) dX5_forget_22 (by decide) ?_
      refine rb_goto X (pc := 23) (tgt := 27) dX5_forget_23 (by decide) ?_
      refine rb_istore_n X (pc := 27) dX5_forget_27 rfl (by decide) rfl rfl ?_
      refine rb_aload_n X (pc := 28) dX5_forget_28 rfl rfl ?_
      refine rc_getR X (pc := 29) fX5_7 rb_ob9 rfl dX5_forget_29 ?_
      refine rb_iconst (v := 2) X (pc := 32) dX5_forget_32 (by decide) ?_
      refine rb_dup2 X (pc := 33) dX5_forget_33 rfl rfl ?_
      refine rc_ialdv X (pc := 34) 2 rb_ar9_0 ms_2 rfl (by decide) dX5_forget_34 ?_
      refine rb_iconst (v := 1) X (pc := 35) dX5_forget_35 (by decide) ?_
      refine rb_iload_n X (pc := 36) dX5_forget_36 rfl rfl ?_
      refine rb_ishl X (pc := 37) dX5_forget_37 ?_
      refine rb_iconst (v := (-1)) X (pc := 38) dX5_forget_38 (by decide) ?_
      refine rb_ixor X (pc := 39) dX5_forget_39 ?_
      refine rb_iand X (pc := 40) dX5_forget_40 ?_
      refine rc_iast X (pc := 41) 2 rb_ar9_0 ms_u2 rfl (by decide) dX5_forget_41 ?_
      refine rb_iload_n X (pc := 42) dX5_forget_42 rfl rfl ?_
      refine rb_iret (S := []) X (pc := 43) Y dX5_forget_43 ?_
      first
      | exact pm_T hM (by rw [r_forget, if_pos c4, if_pos c19])
      | exact pm_T hM (by rw [r_forget, if_pos c4, if_neg c19])
  · (try simp only [sp_b0, Classical.not_not] at c4)
    refine rb_aload_n X (pc := 7) dX5_forget_7 rfl rfl ?_
    refine rb_ldc X (pc := 8) dX5_forget_8 kX5_45 ?_
    refine rc_callVi X (pc := 10) cvX5_finds mX5_74 rb_ob9 (qX5_finds (i := 0) (by decide) (by decide)) (by decide) rfl rfl (Nat.le_of_ble_eq_true rfl) dX5_forget_10 ?_
    refine rb_iret (S := []) X (pc := 13) Y dX5_forget_13 ?_
    exact pm_f hM (by simp [r_forget, ff_0, *]; done)
set_option maxRecDepth 100000 in
set_option maxHeartbeats 1000000 in
theorem qX5_days {G : rb_G} {σ : Sg} {h : rb_H} (hS : okS σ) (hM : MI σ h)  (n0 : Int32) : rb_M G 8 yX5_days cX5_days 2 (some .int) [.ref (rb_ad G 9 0), .int n0] (h) (PM h (r_days σ n0)) := by
  refine rb_meth (L := [.ref (rb_ad G 9 0), .int n0]) (by decide) (Nat.le_of_ble_eq_true rfl) rfl (fun Z X Y => ?_)
  have X : rb_CX Z G cX5_days 2 RX5 8 := X
  obtain ⟨h, rfl⟩ : ∃ h0, h = ms h0 (sT σ) := ⟨h, (rb_row_self hM.1).symm⟩
  have hok := hS.1
  have hn4 := hok.1
  have hn10 := hok.2.1
  refine rb_iload_n X (pc := 0) dX5_days_0 rfl rfl ?_
  refine rb_i2l X (pc := 1) dX5_days_1 ?_
  refine rb_lconst (v := 1) X (pc := 2) dX5_days_2 (by decide) ?_
  refine rb_ldc2 X (pc := 3) dX5_days_3 kX5_166 ?_
  refine rc_callSi X (pc := 6) cvX5_in mX5_48 (qJn (a := (1)) (b := (60)) rfl rfl) (by decide) rfl rfl (Nat.le_of_ble_eq_true rfl) dX5_days_6 ?_
  refine rb_if_ne X (pc := 9) (tgt := 19) dX5_days_9 (by decide) (fun c9 => ?_) (fun c9 => ?_)
  · (try simp only [sp_b0, Classical.not_not] at c9)
    have cV := iV_e.mp c9
    obtain ⟨n, hv1, hv2, rfl⟩ := iV_of (n := 60) (by decide) cV
    have en : ix (nI n) = n := nI_clamp (by omega)
    refine rb_aload_n X (pc := 19) dX5_days_19 rfl rfl ?_
    refine rc_getR X (pc := 20) fX5_7 rb_ob9 rfl dX5_days_20 ?_
    refine rb_iconst (v := 1) X (pc := 23) dX5_days_23 (by decide) ?_
    refine rc_ialdv X (pc := 24) 1 rb_ar9_0 ms_1 rfl (by decide) dX5_days_24 ?_
    refine rb_iload_n X (pc := 25) dX5_days_25 rfl rfl ?_
    refine rb_iadd X (pc := 26) dX5_days_26 ?_
    refine rb_sipush (v := 9999) X (pc := 27) dX5_days_27 (by decide) ?_
    refine rb_icmp_le X (pc := 30) (tgt := 40) dX5_days_30 (by decide) (fun c30 => ?_) (fun c30 => ?_)
    · refine rb_aload_n X (pc := 40) dX5_days_40 rfl rfl ?_
      refine rb_iload_n X (pc := 41) dX5_days_41 rfl rfl ?_
      refine rc_callVv X (pc := 42) cvX5_daysGo mX5_168 rb_ob9 (qX5_daysGo hok (by omega)) (by decide) rfl rfl (Nat.le_of_ble_eq_true rfl) dX5_days_42 ?_
      refine rb_aload_n X (pc := 45) dX5_days_45 rfl rfl ?_
      refine rc_getR X (pc := 46) fX5_7 rb_ob9 rfl dX5_days_46 ?_
      refine rb_iconst (v := 0) X (pc := 49) dX5_days_49 (by decide) ?_
      refine rc_ialdv X (pc := 50) 0 rb_ar9_0 ms_0 rfl (by decide) dX5_days_50 ?_
      refine rb_iret (S := []) X (pc := 51) Y dX5_days_51 ?_
      exact pm_T hM (by rw [r_days, if_pos cV, if_neg (Int32.not_lt.mpr c30), en])
    · refine rb_aload_n X (pc := 33) dX5_days_33 rfl rfl ?_
      refine rb_ldc X (pc := 34) dX5_days_34 kX5_134 ?_
      refine rc_callVi X (pc := 36) cvX5_finds mX5_74 rb_ob9 (qX5_finds (i := 4) (by decide) (by decide)) (by decide) rfl rfl (Nat.le_of_ble_eq_true rfl) dX5_days_36 ?_
      refine rb_iret (S := []) X (pc := 39) Y dX5_days_39 ?_
      exact pm_f hM (by rw [r_days, if_pos cV, if_pos (Int32.not_le.mp c30), ff_4])
  · (try simp only [sp_b0, Classical.not_not] at c9)
    have cV : ¬ iV n0 60 = true := fun z => c9 (iV_e.mpr z)
    refine rb_aload_n X (pc := 12) dX5_days_12 rfl rfl ?_
    refine rb_ldc X (pc := 13) dX5_days_13 kX5_45 ?_
    refine rc_callVi X (pc := 15) cvX5_finds mX5_74 rb_ob9 (qX5_finds (i := 0) (by decide) (by decide)) (by decide) rfl rfl (Nat.le_of_ble_eq_true rfl) dX5_days_15 ?_
    refine rb_iret (S := []) X (pc := 18) Y dX5_days_18 ?_
    exact pm_f hM (by rw [r_days, if_neg cV, ff_0])
set_option maxRecDepth 100000 in
set_option maxHeartbeats 1000000 in
theorem qX5_now {G : rb_G} {σ : Sg} {h : rb_H} (hS : okS σ) (hM : MI σ h)  (w : Int32) : rb_M G 5 yX5_now cX5_now 2 (some .int) [.ref (rb_ad G 9 0), .int w] (h) (PM h (r_now σ w)) := by
  refine rb_meth (L := [.ref (rb_ad G 9 0), .int w]) (by decide) (Nat.le_of_ble_eq_true rfl) rfl (fun Z X Y => ?_)
  have X : rb_CX Z G cX5_now 2 RX5 5 := X
  obtain ⟨h, rfl⟩ : ∃ h0, h = ms h0 (sT σ) := ⟨h, (rb_row_self hM.1).symm⟩
  have hok := hS.1
  have hn4 := hok.1
  have hn10 := hok.2.1
  refine rb_iload_n X (pc := 0) dX5_now_0 rfl rfl ?_
  refine rc_tabC X (pc := 1) (v := 0) (i := 0) (tgt := 44) dX5_now_1 (by decide) (by decide) rfl (by decide) (fun c1 => ?_) (fun n1_0 => ?_)
  · refine rb_aload_n X (pc := 44) dX5_now_44 rfl rfl ?_
    refine rc_getR X (pc := 45) fX5_7 rb_ob9 rfl dX5_now_45 ?_
    refine rb_iconst (v := 1) X (pc := 48) dX5_now_48 (by decide) ?_
    refine rc_ialdv X (pc := 49) 1 rb_ar9_0 ms_1 rfl (by decide) dX5_now_49 ?_
    refine rb_iret (S := []) X (pc := 50) Y dX5_now_50 ?_
    exact pm_0 hM (by simp [r_now, *])
  refine rc_tabC X (pc := 1) (v := 1) (i := 1) (tgt := 51) dX5_now_1 (by decide) (by decide) rfl (by decide) (fun c1 => ?_) (fun n1_1 => ?_)
  · refine rb_aload_n X (pc := 51) dX5_now_51 rfl rfl ?_
    refine rc_getR X (pc := 52) fX5_7 rb_ob9 rfl dX5_now_52 ?_
    refine rb_iconst (v := 2) X (pc := 55) dX5_now_55 (by decide) ?_
    refine rc_ialdv X (pc := 56) 2 rb_ar9_0 ms_2 rfl (by decide) dX5_now_56 ?_
    refine rb_iret (S := []) X (pc := 57) Y dX5_now_57 ?_
    exact pm_0 hM (by simp [r_now, *])
  refine rc_tabC X (pc := 1) (v := 2) (i := 2) (tgt := 58) dX5_now_1 (by decide) (by decide) rfl (by decide) (fun c1 => ?_) (fun n1_2 => ?_)
  · refine rb_aload_n X (pc := 58) dX5_now_58 rfl rfl ?_
    refine rb_iconst (v := (-1)) X (pc := 59) dX5_now_59 (by decide) ?_
    refine rc_callVi X (pc := 60) cvX5_thoseAt mX5_87 rb_ob9 (qX5_thoseAt hn4 hn10 _) (by decide) rfl rfl (Nat.le_of_ble_eq_true rfl) dX5_now_60 ?_
    refine rb_iret (S := []) X (pc := 63) Y dX5_now_63 ?_
    exact pm_0 hM (by simp [r_now, *])
  refine rc_tabC X (pc := 1) (v := 3) (i := 3) (tgt := 64) dX5_now_1 (by decide) (by decide) rfl (by decide) (fun c1 => ?_) (fun n1_3 => ?_)
  · refine rb_aload_n X (pc := 64) dX5_now_64 rfl rfl ?_
    refine rc_callVi X (pc := 65) cvX5_bulks mX5_171 rb_ob9 (qX5_bulks hn4 hn10) (by decide) rfl rfl (Nat.le_of_ble_eq_true rfl) dX5_now_65 ?_
    refine rb_iret (S := []) X (pc := 68) Y dX5_now_68 ?_
    exact pm_0 hM (by simp [r_now, *])
  refine rc_tabC X (pc := 1) (v := 4) (i := 4) (tgt := 69) dX5_now_1 (by decide) (by decide) rfl (by decide) (fun c1 => ?_) (fun n1_4 => ?_)
  · refine rb_aload_n X (pc := 69) dX5_now_69 rfl rfl ?_
    refine rc_callVi X (pc := 70) cvX5_larders mX5_175 rb_ob9 qX5_larders (by decide) rfl rfl (Nat.le_of_ble_eq_true rfl) dX5_now_70 ?_
    refine rb_iret (S := []) X (pc := 73) Y dX5_now_73 ?_
    exact pm_0 hM (by simp [r_now, *])
  refine rc_tabC X (pc := 1) (v := 5) (i := 5) (tgt := 74) dX5_now_1 (by decide) (by decide) rfl (by decide) (fun c1 => ?_) (fun n1_5 => ?_)
  · refine rb_aload_n X (pc := 74) dX5_now_74 rfl rfl ?_
    refine rc_callVi X (pc := 75) cvX5_freeBeds mX5_178 rb_ob9 (qX5_freeBeds hok) (by decide) rfl rfl (Nat.le_of_ble_eq_true rfl) dX5_now_75 ?_
    refine rb_iret (S := []) X (pc := 78) Y dX5_now_78 ?_
    exact pm_0 hM (by simp [r_now, *])
  refine rc_tabC X (pc := 1) (v := 6) (i := 6) (tgt := 79) dX5_now_1 (by decide) (by decide) rfl (by decide) (fun c1 => ?_) (fun n1_6 => ?_)
  · refine rb_aload_n X (pc := 79) dX5_now_79 rfl rfl ?_
    refine rc_callVi X (pc := 80) cvX5_eaten mX5_181 rb_ob9 (qX5_eaten hn4 hn10) (by decide) rfl rfl (Nat.le_of_ble_eq_true rfl) dX5_now_80 ?_
    refine rb_iret (S := []) X (pc := 83) Y dX5_now_83 ?_
    exact pm_0 hM (by simp [r_now, *])
  refine rb_tabOut X (pc := 1) (tgt := 84) dX5_now_1 (by have z0 := lv_neT n1_0 (a := 0) rfl; have z1 := lv_neT n1_1 (a := 1) rfl; have z2 := lv_neT n1_2 (a := 2) rfl; have z3 := lv_neT n1_3 (a := 3) rfl; have z4 := lv_neT n1_4 (a := 4) rfl; have z5 := lv_neT n1_5 (a := 5) rfl; have z6 := lv_neT n1_6 (a := 6) rfl; omega) (by decide) ?_
  refine rb_aload_n X (pc := 84) dX5_now_84 rfl rfl ?_
  refine rb_ldc X (pc := 85) dX5_now_85 kX5_45 ?_
  refine rc_callVi X (pc := 87) cvX5_finds mX5_74 rb_ob9 (qX5_finds (i := 0) (by decide) (by decide)) (by decide) rfl rfl (Nat.le_of_ble_eq_true rfl) dX5_now_87 ?_
  refine rb_iret (S := []) X (pc := 90) Y dX5_now_90 ?_
  exact pm_f hM (by simp [r_now, ff_0, *])
