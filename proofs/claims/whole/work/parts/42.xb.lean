theorem ff_0 {σ : Sg} : ff σ 0 = (-1000000001, fnd σ 0) := Prod.ext (show -1000000001 - nI 0 = (-1000000001 : Int32) by decide) rfl
theorem ff_1 {σ : Sg} : ff σ 1 = (-1000000002, fnd σ 1) := Prod.ext (show -1000000001 - nI 1 = (-1000000002 : Int32) by decide) rfl
theorem ff_2 {σ : Sg} : ff σ 2 = (-1000000003, fnd σ 2) := Prod.ext (show -1000000001 - nI 2 = (-1000000003 : Int32) by decide) rfl
theorem ff_3 {σ : Sg} : ff σ 3 = (-1000000004, fnd σ 3) := Prod.ext (show -1000000001 - nI 3 = (-1000000004 : Int32) by decide) rfl
theorem ff_4 {σ : Sg} : ff σ 4 = (-1000000005, fnd σ 4) := Prod.ext (show -1000000001 - nI 4 = (-1000000005 : Int32) by decide) rfl
theorem ff_5 {σ : Sg} : ff σ 5 = (-1000000006, fnd σ 5) := Prod.ext (show -1000000001 - nI 5 = (-1000000006 : Int32) by decide) rfl
theorem ff_6 {σ : Sg} : ff σ 6 = (-1000000007, fnd σ 6) := Prod.ext (show -1000000001 - nI 6 = (-1000000007 : Int32) by decide) rfl
theorem ix_0 : ix 0 = 0 := by decide
theorem ix_1 : ix 1 = 1 := by decide
theorem ix_2 : ix 2 = 2 := by decide
theorem ix_3 : ix 3 = 3 := by decide
theorem iN_m1 {v : Int32} : iN v (-1) = false := by
  simp only [iN, decide_eq_false_iff_not]
  rintro ⟨a, b⟩
  exact absurd (Int32.le_trans a b) (by decide)
set_option maxRecDepth 100000 in
set_option maxHeartbeats 1000000 in
theorem qX4_house {G : rb_G} {σ : Sg} {h : rb_H} (hS : okS σ) (hC : CI σ h)  (a w v : Int32) : rb_M G 1 yX4_house cX4_house 6 (some .int) [.ref (rb_ad G 8 0), .int a, .int w, .int v] (h) (PC h (r_house σ a w v)) := by
  refine rb_meth (L := [.ref (rb_ad G 8 0), .int a, .int w, .int v, .null, .null]) (by decide) (Nat.le_of_ble_eq_true rfl) rfl (fun Z X Y => ?_)
  have X : rb_CX Z G cX4_house 6 RX4 1 := X
  obtain ⟨h, rfl⟩ : ∃ h0, h = tw h0 0 (sT σ) := ⟨h, (rb_st_self hC.1).symm⟩
  have hok := hS.1
  have hn4 := hok.1
  have hn10 := hok.2.1
  refine rb_iload_n X (pc := 0) dX4_house_0 rfl rfl ?_
  refine rc_callSi X (pc := 1) cvX4_isHouse mX4_44 (qX4_isHouse _) (by decide) rfl rfl (Nat.le_of_ble_eq_true rfl) dX4_house_1 ?_
  refine rb_if_eq X (pc := 4) (tgt := 18) dX4_house_4 (by decide) (fun c4 => ?_) (fun c4 => ?_)
  · (try simp only [sp_b0, Classical.not_not] at c4)
    refine rb_aload_n X (pc := 18) dX4_house_18 rfl rfl ?_
    refine rb_ldc X (pc := 19) dX4_house_19 kX4_56 ?_
    refine rc_callVi X (pc := 21) cvX4_finding mX4_57 rb_ob8 (qX4_finding (i := 0) (by decide) (by decide)) (by decide) rfl rfl (Nat.le_of_ble_eq_true rfl) dX4_house_21 ?_
    refine rb_iret (S := []) X (pc := 24) Y dX4_house_24 ?_
    exact pc_f hC (by
      first
      | (simp [r_house, ff_0, c4]; done)
      | (rw [r_house, if_neg, ff_0]; by_cases z0 : w = 0 <;> by_cases z1 : w = 1 <;> by_cases z2 : w = 2 <;> simp_all [m_house]))
  · (try simp only [sp_b0, Classical.not_not] at c4)
    refine rb_iload_n X (pc := 7) dX4_house_7 rfl rfl ?_
    refine rb_iload_n X (pc := 8) dX4_house_8 rfl rfl ?_
    refine rc_callSi X (pc := 9) cvX4_mostOfHouse mX4_48 (qX4_mostOfHouse _) (by decide) rfl rfl (Nat.le_of_ble_eq_true rfl) dX4_house_9 ?_
    refine rc_callSi X (pc := 12) cvX4_isWithin mX4_52 (qX4_isWithin _ _) (by decide) rfl rfl (Nat.le_of_ble_eq_true rfl) dX4_house_12 ?_
    refine rb_if_ne X (pc := 15) (tgt := 25) dX4_house_15 (by decide) (fun c15 => ?_) (fun c15 => ?_)
    · (try simp only [sp_b0, Classical.not_not] at c15)
      obtain ⟨q, hq, rfl⟩ := iH_of c4
      have eq1 : ix (nI q) = q := nI_clamp (by omega)
      refine rb_iload_n X (pc := 25) dX4_house_25 rfl rfl ?_
      refine rb_if_ne X (pc := 26) (tgt := 39) dX4_house_26 (by decide) (fun c26 => ?_) (fun c26 => ?_)
      · refine rb_iload_n X (pc := 39) dX4_house_39 rfl rfl ?_
        refine rb_iconst (v := 1) X (pc := 40) dX4_house_40 (by decide) ?_
        refine rb_icmp_ne X (pc := 41) (tgt := 54) dX4_house_41 (by decide) (fun c41 => ?_) (fun c41 => ?_)
        · have c42 : w = 2 := by
            by_cases z : w = 2
            · exact z
            · simp [m_house, c26, c41, z, iN_m1] at c15
          subst c42
          refine rb_aload_n X (pc := 54) dX4_house_54 rfl rfl ?_
          refine rc_getO (q := 0) X (pc := 55) fX4_10 rb_ob8 rfl dX4_house_55 ?_
          refine rc_getR X (pc := 58) fX4_66 (rb_obT (t := 0) (by decide)) rfl dX4_house_58 ?_
          refine rb_astore X (pc := 61) dX4_house_61 (by decide) rfl rfl ?_
          refine rb_aload X (pc := 63) dX4_house_63 rfl ?_
          refine rb_iload_n X (pc := 65) dX4_house_65 rfl rfl ?_
          refine rc_iald X (pc := 66) _ (rb_arT2 (t := 0) (by decide)) (rb_tj2 (t := 0)) rfl (by omega) dX4_house_66 ?_
          refine rb_istore X (pc := 67) dX4_house_67 (by decide) rfl rfl ?_
          refine rb_aload X (pc := 69) dX4_house_69 rfl ?_
          refine rb_iload_n X (pc := 71) dX4_house_71 rfl rfl ?_
          refine rb_iload_n X (pc := 72) dX4_house_72 rfl rfl ?_
          refine rc_iast X (pc := 73) _ (rb_arT2 (t := 0) (by decide)) (tw_u (by decide) (by decide) (by decide)) rfl (by omega) dX4_house_73 ?_
          refine rb_iload X (pc := 74) dX4_house_74 rfl ?_
          refine rb_iret (S := []) X (pc := 76) Y dX4_house_76 ?_
          exact pc_T hC (by simp_all [r_house, m_house, ix_0, ix_1, ix_2]; try rfl)
        · have c41 : w = 1 := by simpa using c41
          subst c41
          refine rb_aload_n X (pc := 44) dX4_house_44 rfl rfl ?_
          refine rc_getO (q := 0) X (pc := 45) fX4_10 rb_ob8 rfl dX4_house_45 ?_
          refine rc_getR X (pc := 48) fX4_63 (rb_obT (t := 0) (by decide)) rfl dX4_house_48 ?_
          refine rb_goto X (pc := 51) (tgt := 61) dX4_house_51 (by decide) ?_
          refine rb_astore X (pc := 61) dX4_house_61 (by decide) rfl rfl ?_
          refine rb_aload X (pc := 63) dX4_house_63 rfl ?_
          refine rb_iload_n X (pc := 65) dX4_house_65 rfl rfl ?_
          refine rc_iald X (pc := 66) _ (rb_arT1 (t := 0) (by decide)) (rb_tj1 (t := 0)) rfl (by omega) dX4_house_66 ?_
          refine rb_istore X (pc := 67) dX4_house_67 (by decide) rfl rfl ?_
          refine rb_aload X (pc := 69) dX4_house_69 rfl ?_
          refine rb_iload_n X (pc := 71) dX4_house_71 rfl rfl ?_
          refine rb_iload_n X (pc := 72) dX4_house_72 rfl rfl ?_
          refine rc_iast X (pc := 73) _ (rb_arT1 (t := 0) (by decide)) (tw_u (by decide) (by decide) (by decide)) rfl (by omega) dX4_house_73 ?_
          refine rb_iload X (pc := 74) dX4_house_74 rfl ?_
          refine rb_iret (S := []) X (pc := 76) Y dX4_house_76 ?_
          exact pc_T hC (by simp_all [r_house, m_house, ix_0, ix_1, ix_2]; try rfl)
      · have c26 : w = 0 := by simpa using c26
        subst c26
        refine rb_aload_n X (pc := 29) dX4_house_29 rfl rfl ?_
        refine rc_getO (q := 0) X (pc := 30) fX4_10 rb_ob8 rfl dX4_house_30 ?_
        refine rc_getR X (pc := 33) fX4_60 (rb_obT (t := 0) (by decide)) rfl dX4_house_33 ?_
        refine rb_goto X (pc := 36) (tgt := 61) dX4_house_36 (by decide) ?_
        refine rb_astore X (pc := 61) dX4_house_61 (by decide) rfl rfl ?_
        refine rb_aload X (pc := 63) dX4_house_63 rfl ?_
        refine rb_iload_n X (pc := 65) dX4_house_65 rfl rfl ?_
        refine rc_iald X (pc := 66) _ (rb_arT0 (t := 0) (by decide)) (rb_tj0 (t := 0)) rfl (by omega) dX4_house_66 ?_
        refine rb_istore X (pc := 67) dX4_house_67 (by decide) rfl rfl ?_
        refine rb_aload X (pc := 69) dX4_house_69 rfl ?_
        refine rb_iload_n X (pc := 71) dX4_house_71 rfl rfl ?_
        refine rb_iload_n X (pc := 72) dX4_house_72 rfl rfl ?_
        refine rc_iast X (pc := 73) _ (rb_arT0 (t := 0) (by decide)) (tw_u (by decide) (by decide) (by decide)) rfl (by omega) dX4_house_73 ?_
        refine rb_iload X (pc := 74) dX4_house_74 rfl ?_
        refine rb_iret (S := []) X (pc := 76) Y dX4_house_76 ?_
        exact pc_T hC (by simp_all [r_house, m_house, ix_0, ix_1, ix_2]; try rfl)
    · (try simp only [sp_b0, Classical.not_not] at c15)
      refine rb_aload_n X (pc := 18) dX4_house_18 rfl rfl ?_
      refine rb_ldc X (pc := 19) dX4_house_19 kX4_56 ?_
      refine rc_callVi X (pc := 21) cvX4_finding mX4_57 rb_ob8 (qX4_finding (i := 0) (by decide) (by decide)) (by decide) rfl rfl (Nat.le_of_ble_eq_true rfl) dX4_house_21 ?_
      refine rb_iret (S := []) X (pc := 24) Y dX4_house_24 ?_
      exact pc_f hC (by
        first
        | (simp [r_house, ff_0, c4]; done)
        | (rw [r_house, if_neg, ff_0]; by_cases z0 : w = 0 <;> by_cases z1 : w = 1 <;> by_cases z2 : w = 2 <;> simp_all [m_house]))
set_option maxRecDepth 100000 in
set_option maxHeartbeats 1000000 in
theorem qX4_houseOf {G : rb_G} {σ : Sg} {h : rb_H} (hS : okS σ) (hC : CI σ h)  (a w : Int32) : rb_M G 4 yX4_houseOf cX4_houseOf 3 (some .int) [.ref (rb_ad G 8 0), .int a, .int w] (h) (PC h (r_houseOf σ a w)) := by
  refine rb_meth (L := [.ref (rb_ad G 8 0), .int a, .int w]) (by decide) (Nat.le_of_ble_eq_true rfl) rfl (fun Z X Y => ?_)
  have X : rb_CX Z G cX4_houseOf 3 RX4 4 := X
  obtain ⟨h, rfl⟩ : ∃ h0, h = tw h0 0 (sT σ) := ⟨h, (rb_st_self hC.1).symm⟩
  have hok := hS.1
  have hn4 := hok.1
  have hn10 := hok.2.1
  refine rb_iload_n X (pc := 0) dX4_houseOf_0 rfl rfl ?_
  refine rc_callSi X (pc := 1) cvX4_isHouse mX4_44 (qX4_isHouse _) (by decide) rfl rfl (Nat.le_of_ble_eq_true rfl) dX4_houseOf_1 ?_
  refine rb_if_ne X (pc := 4) (tgt := 14) dX4_houseOf_4 (by decide) (fun c4 => ?_) (fun c4 => ?_)
  · (try simp only [sp_b0, Classical.not_not] at c4)
    obtain ⟨q, hq, rfl⟩ := iH_of c4
    have eq1 : ix (nI q) = q := nI_clamp (by omega)
    refine rb_iload_n X (pc := 14) dX4_houseOf_14 rfl rfl ?_
    refine rc_tabC X (pc := 15) (v := 0) (i := 0) (tgt := 52) dX4_houseOf_15 (by decide) (by decide) rfl (by decide) (fun c15 => ?_) (fun n15_0 => ?_)
    · refine rb_aload_n X (pc := 52) dX4_houseOf_52 rfl rfl ?_
      refine rc_getO (q := 0) X (pc := 53) fX4_10 rb_ob8 rfl dX4_houseOf_53 ?_
      refine rc_getR X (pc := 56) fX4_60 (rb_obT (t := 0) (by decide)) rfl dX4_houseOf_56 ?_
      refine rb_iload_n X (pc := 59) dX4_houseOf_59 rfl rfl ?_
      refine rc_iald X (pc := 60) _ (rb_arT0 (t := 0) (by decide)) (rb_tj0 (t := 0)) rfl (by omega) dX4_houseOf_60 ?_
      refine rb_iret (S := []) X (pc := 61) Y dX4_houseOf_61 ?_
      exact pc_0 hC (by simp [r_houseOf, c4, c15, eq1])
    refine rc_tabC X (pc := 15) (v := 1) (i := 1) (tgt := 62) dX4_houseOf_15 (by decide) (by decide) rfl (by decide) (fun c15 => ?_) (fun n15_1 => ?_)
    · refine rb_aload_n X (pc := 62) dX4_houseOf_62 rfl rfl ?_
      refine rc_getO (q := 0) X (pc := 63) fX4_10 rb_ob8 rfl dX4_houseOf_63 ?_
      refine rc_getR X (pc := 66) fX4_63 (rb_obT (t := 0) (by decide)) rfl dX4_houseOf_66 ?_
      refine rb_iload_n X (pc := 69) dX4_houseOf_69 rfl rfl ?_
      refine rc_iald X (pc := 70) _ (rb_arT1 (t := 0) (by decide)) (rb_tj1 (t := 0)) rfl (by omega) dX4_houseOf_70 ?_
      refine rb_iret (S := []) X (pc := 71) Y dX4_houseOf_71 ?_
      exact pc_0 hC (by simp [r_houseOf, c4, c15, eq1])
    refine rc_tabC X (pc := 15) (v := 2) (i := 2) (tgt := 72) dX4_houseOf_15 (by decide) (by decide) rfl (by decide) (fun c15 => ?_) (fun n15_2 => ?_)
    · refine rb_aload_n X (pc := 72) dX4_houseOf_72 rfl rfl ?_
      refine rc_getO (q := 0) X (pc := 73) fX4_10 rb_ob8 rfl dX4_houseOf_73 ?_
      refine rc_getR X (pc := 76) fX4_66 (rb_obT (t := 0) (by decide)) rfl dX4_houseOf_76 ?_
      refine rb_iload_n X (pc := 79) dX4_houseOf_79 rfl rfl ?_
      refine rc_iald X (pc := 80) _ (rb_arT2 (t := 0) (by decide)) (rb_tj2 (t := 0)) rfl (by omega) dX4_houseOf_80 ?_
      refine rb_iret (S := []) X (pc := 81) Y dX4_houseOf_81 ?_
      exact pc_0 hC (by simp [r_houseOf, c4, c15, eq1])
    refine rc_tabC X (pc := 15) (v := 3) (i := 3) (tgt := 82) dX4_houseOf_15 (by decide) (by decide) rfl (by decide) (fun c15 => ?_) (fun n15_3 => ?_)
    · refine rb_aload_n X (pc := 82) dX4_houseOf_82 rfl rfl ?_
      refine rc_getO (q := 0) X (pc := 83) fX4_10 rb_ob8 rfl dX4_houseOf_83 ?_
      refine rb_iload_n X (pc := 86) dX4_houseOf_86 rfl rfl ?_
      refine rc_callVi X (pc := 87) cvX3_thoseIn mX4_69 (rb_obT (t := 0) (by decide)) (qX3_thoseIn (t := 0) (by decide) hn4 hn10 _) (by decide) rfl rfl (Nat.le_of_ble_eq_true rfl) dX4_houseOf_87 ?_
      refine rb_iret (S := []) X (pc := 90) Y dX4_houseOf_90 ?_
      exact pc_0 hC (by simp [r_houseOf, c4, c15, eq1])
    refine rc_tabC X (pc := 15) (v := 4) (i := 4) (tgt := 91) dX4_houseOf_15 (by decide) (by decide) rfl (by decide) (fun c15 => ?_) (fun n15_4 => ?_)
    · refine rb_aload_n X (pc := 91) dX4_houseOf_91 rfl rfl ?_
      refine rc_getO (q := 0) X (pc := 92) fX4_10 rb_ob8 rfl dX4_houseOf_92 ?_
      refine rb_iload_n X (pc := 95) dX4_houseOf_95 rfl rfl ?_
      refine rc_callVi X (pc := 96) cvX3_eventsIn mX4_72 (rb_obT (t := 0) (by decide)) (qX3_eventsIn (t := 0) (by decide) hn4 hn10 _) (by decide) rfl rfl (Nat.le_of_ble_eq_true rfl) dX4_houseOf_96 ?_
      refine rb_iret (S := []) X (pc := 99) Y dX4_houseOf_99 ?_
      exact pc_0 hC (by simp [r_houseOf, c4, c15, eq1])
    refine rc_tabC X (pc := 15) (v := 5) (i := 5) (tgt := 100) dX4_houseOf_15 (by decide) (by decide) rfl (by decide) (fun c15 => ?_) (fun n15_5 => ?_)
    · refine rb_aload_n X (pc := 100) dX4_houseOf_100 rfl rfl ?_
      refine rc_getO (q := 0) X (pc := 101) fX4_10 rb_ob8 rfl dX4_houseOf_101 ?_
      refine rb_iload_n X (pc := 104) dX4_houseOf_104 rfl rfl ?_
      refine rc_callVi X (pc := 105) cvX3_eatenIn mX4_75 (rb_obT (t := 0) (by decide)) (qX3_eatenIn (t := 0) (by decide) hn4 hn10 _) (by decide) rfl rfl (Nat.le_of_ble_eq_true rfl) dX4_houseOf_105 ?_
      refine rb_iret (S := []) X (pc := 108) Y dX4_houseOf_108 ?_
      exact pc_0 hC (by simp [r_houseOf, c4, c15, eq1])
    refine rb_tabOut X (pc := 15) (tgt := 109) dX4_houseOf_15 (by have z0 := lv_neT n15_0 (a := 0) rfl; have z1 := lv_neT n15_1 (a := 1) rfl; have z2 := lv_neT n15_2 (a := 2) rfl; have z3 := lv_neT n15_3 (a := 3) rfl; have z4 := lv_neT n15_4 (a := 4) rfl; have z5 := lv_neT n15_5 (a := 5) rfl; omega) (by decide) ?_
    refine rb_aload_n X (pc := 109) dX4_houseOf_109 rfl rfl ?_
    refine rb_ldc X (pc := 110) dX4_houseOf_110 kX4_56 ?_
    refine rc_callVi X (pc := 112) cvX4_finding mX4_57 rb_ob8 (qX4_finding (i := 0) (by decide) (by decide)) (by decide) rfl rfl (Nat.le_of_ble_eq_true rfl) dX4_houseOf_112 ?_
    refine rb_iret (S := []) X (pc := 115) Y dX4_houseOf_115 ?_
    exact pc_f hC (by simp [r_houseOf, ff_0, *])
  · (try simp only [sp_b0, Classical.not_not] at c4)
    refine rb_aload_n X (pc := 7) dX4_houseOf_7 rfl rfl ?_
    refine rb_ldc X (pc := 8) dX4_houseOf_8 kX4_56 ?_
    refine rc_callVi X (pc := 10) cvX4_finding mX4_57 rb_ob8 (qX4_finding (i := 0) (by decide) (by decide)) (by decide) rfl rfl (Nat.le_of_ble_eq_true rfl) dX4_houseOf_10 ?_
    refine rb_iret (S := []) X (pc := 13) Y dX4_houseOf_13 ?_
    first
    | exact pc_f hC (by simp [r_houseOf, ff_0, *]; done)
    | exact pc_Af hC (by simp [r_houseOf, ff_0, *]; done)
set_option maxRecDepth 100000 in
set_option maxHeartbeats 1000000 in
theorem qX4_rumour {G : rb_G} {σ : Sg} {h : rb_H} (hS : okS σ) (hC : CI σ h)  (k e : Int32) : rb_M G 2 yX4_rumour cX4_rumour 3 (some .int) [.ref (rb_ad G 8 0), .int k, .int e] (h) (PC h (r_rumour σ k e)) := by
  refine rb_meth (L := [.ref (rb_ad G 8 0), .int k, .int e]) (by decide) (Nat.le_of_ble_eq_true rfl) rfl (fun Z X Y => ?_)
  have X : rb_CX Z G cX4_rumour 3 RX4 2 := X
  obtain ⟨h, rfl⟩ : ∃ h0, h = tw h0 0 (sT σ) := ⟨h, (rb_st_self hC.1).symm⟩
  have hok := hS.1
  have hn4 := hok.1
  have hn10 := hok.2.1
  refine rb_iload_n X (pc := 0) dX4_rumour_0 rfl rfl ?_
  refine rc_callSi X (pc := 1) cvX4_isKind mX4_78 (qX4_isKind _) (by decide) rfl rfl (Nat.le_of_ble_eq_true rfl) dX4_rumour_1 ?_
  refine rb_if_eq X (pc := 4) (tgt := 14) dX4_rumour_4 (by decide) (fun c4 => ?_) (fun c4 => ?_)
  · (try simp only [sp_b0, Classical.not_not] at c4)
    refine rb_aload_n X (pc := 14) dX4_rumour_14 rfl rfl ?_
    refine rb_ldc X (pc := 15) dX4_rumour_15 kX4_56 ?_
    refine rc_callVi X (pc := 17) cvX4_finding mX4_57 rb_ob8 (qX4_finding (i := 0) (by decide) (by decide)) (by decide) rfl rfl (Nat.le_of_ble_eq_true rfl) dX4_rumour_17 ?_
    refine rb_iret (S := []) X (pc := 20) Y dX4_rumour_20 ?_
    first
    | exact pc_f hC (by simp [r_rumour, ff_0, *]; done)
    | exact pc_Af hC (by simp [r_rumour, ff_0, *]; done)
  · (try simp only [sp_b0, Classical.not_not] at c4)
    refine rb_iload_n X (pc := 7) dX4_rumour_7 rfl rfl ?_
    refine rc_callSi X (pc := 8) cvX4_isEvent mX4_81 (qX4_isEvent _) (by decide) rfl rfl (Nat.le_of_ble_eq_true rfl) dX4_rumour_8 ?_
    refine rb_if_ne X (pc := 11) (tgt := 21) dX4_rumour_11 (by decide) (fun c11 => ?_) (fun c11 => ?_)
    · (try simp only [sp_b0, Classical.not_not] at c11)
      refine rb_aload_n X (pc := 21) dX4_rumour_21 rfl rfl ?_
      refine rc_getO (q := 0) X (pc := 22) fX4_10 rb_ob8 rfl dX4_rumour_22 ?_
      refine rc_callVi X (pc := 25) cvX3_isFull mX4_84 (rb_obT (t := 0) (by decide)) (qX3_isFull (t := 0) (by decide)) (by decide) rfl rfl (Nat.le_of_ble_eq_true rfl) dX4_rumour_25 ?_
      refine rb_if_eq X (pc := 28) (tgt := 38) dX4_rumour_28 (by decide) (fun c28 => ?_) (fun c28 => ?_)
      · (try simp only [sp_b0, Classical.not_not] at c28)
        have hnf : sp_n (sT σ) < 10 := by
          rcases Nat.lt_or_ge (sp_n (sT σ)) 10 with z | z
          · exact z
          · exact absurd (by rw [hn4]; exact (nI_leI (a := 10) (by omega) (by omega)).mpr z) c28
        refine rb_aload_n X (pc := 38) dX4_rumour_38 rfl rfl ?_
        refine rc_getO (q := 0) X (pc := 39) fX4_10 rb_ob8 rfl dX4_rumour_39 ?_
        refine rb_iload_n X (pc := 42) dX4_rumour_42 rfl rfl ?_
        refine rb_iload_n X (pc := 43) dX4_rumour_43 rfl rfl ?_
        refine rb_bipush (v := 10) X (pc := 44) dX4_rumour_44 (by decide) ?_
        refine rc_callVi X (pc := 46) cvX3_addOne mX4_89 (rb_obT (t := 0) (by decide)) (qX3_addOne (t := 0) (by decide) hn4 hn10 _ _ _ hnf) (by decide) rfl rfl (Nat.le_of_ble_eq_true rfl) dX4_rumour_46 ?_
        refine rb_iret (S := []) X (pc := 49) Y dX4_rumour_49 ?_
        exact pc_T hC (by simp [r_rumour, c4, c11, c28])
      · (try simp only [sp_b0, Classical.not_not] at c28)
        refine rb_aload_n X (pc := 31) dX4_rumour_31 rfl rfl ?_
        refine rb_ldc X (pc := 32) dX4_rumour_32 kX4_88 ?_
        refine rc_callVi X (pc := 34) cvX4_finding mX4_57 rb_ob8 (qX4_finding (i := 1) (by decide) (by decide)) (by decide) rfl rfl (Nat.le_of_ble_eq_true rfl) dX4_rumour_34 ?_
        refine rb_iret (S := []) X (pc := 37) Y dX4_rumour_37 ?_
        exact pc_f hC (by simp [r_rumour, c4, c11, c28, ff_1])
    · (try simp only [sp_b0, Classical.not_not] at c11)
      refine rb_aload_n X (pc := 14) dX4_rumour_14 rfl rfl ?_
      refine rb_ldc X (pc := 15) dX4_rumour_15 kX4_56 ?_
      refine rc_callVi X (pc := 17) cvX4_finding mX4_57 rb_ob8 (qX4_finding (i := 0) (by decide) (by decide)) (by decide) rfl rfl (Nat.le_of_ble_eq_true rfl) dX4_rumour_17 ?_
      refine rb_iret (S := []) X (pc := 20) Y dX4_rumour_20 ?_
      first
      | exact pc_f hC (by simp [r_rumour, ff_0, *]; done)
      | exact pc_Af hC (by simp [r_rumour, ff_0, *]; done)
set_option maxRecDepth 100000 in
set_option maxHeartbeats 1000000 in
theorem qX4_of {G : rb_G} {σ : Sg} {h : rb_H} (hS : okS σ) (hC : CI σ h)  (r0 w : Int32) : rb_M G 3 yX4_of cX4_of 3 (some .int) [.ref (rb_ad G 8 0), .int r0, .int w] (h) (PC h (r_of σ r0 w)) := by
  refine rb_meth (L := [.ref (rb_ad G 8 0), .int r0, .int w]) (by decide) (Nat.le_of_ble_eq_true rfl) rfl (fun Z X Y => ?_)
  have X : rb_CX Z G cX4_of 3 RX4 3 := X
  obtain ⟨h, rfl⟩ : ∃ h0, h = tw h0 0 (sT σ) := ⟨h, (rb_st_self hC.1).symm⟩
  have hok := hS.1
  have hn4 := hok.1
  have hn10 := hok.2.1
  refine rb_aload_n X (pc := 0) dX4_of_0 rfl rfl ?_
  refine rb_iload_n X (pc := 1) dX4_of_1 rfl rfl ?_
  refine rc_callVi X (pc := 2) cvX4_isRumour mX4_93 rb_ob8 (qX4_isRumour _) (by decide) rfl rfl (Nat.le_of_ble_eq_true rfl) dX4_of_2 ?_
  refine rb_if_ne X (pc := 5) (tgt := 15) dX4_of_5 (by decide) (fun c5 => ?_) (fun c5 => ?_)
  · (try simp only [sp_b0, Classical.not_not] at c5)
    obtain ⟨r, hr, rfl⟩ := iR_of hok c5
    have er : ix (nI r) = r := nI_clamp (by omega)
    refine rb_iload_n X (pc := 15) dX4_of_15 rfl rfl ?_
    refine rc_tabC X (pc := 16) (v := 0) (i := 0) (tgt := 64) dX4_of_16 (by decide) (by decide) rfl (by decide) (fun c16 => ?_) (fun n16_0 => ?_)
    · refine rb_aload_n X (pc := 64) dX4_of_64 rfl rfl ?_
      refine rc_getO (q := 0) X (pc := 65) fX4_10 rb_ob8 rfl dX4_of_65 ?_
      refine rc_getR X (pc := 68) fX4_96 (rb_obT (t := 0) (by decide)) rfl dX4_of_68 ?_
      refine rb_iload_n X (pc := 71) dX4_of_71 rfl rfl ?_
      refine rc_iald X (pc := 72) _ (rb_arT5 (t := 0) (by decide)) (rb_tj5 (t := 0)) rfl (by omega) dX4_of_72 ?_
      refine rb_iret (S := []) X (pc := 73) Y dX4_of_73 ?_
      exact pc_0 hC (by simp [r_of, c5, c16, er])
    refine rc_tabC X (pc := 16) (v := 1) (i := 1) (tgt := 74) dX4_of_16 (by decide) (by decide) rfl (by decide) (fun c16 => ?_) (fun n16_1 => ?_)
    · refine rb_aload_n X (pc := 74) dX4_of_74 rfl rfl ?_
      refine rc_getO (q := 0) X (pc := 75) fX4_10 rb_ob8 rfl dX4_of_75 ?_
      refine rc_getR X (pc := 78) fX4_99 (rb_obT (t := 0) (by decide)) rfl dX4_of_78 ?_
      refine rb_iload_n X (pc := 81) dX4_of_81 rfl rfl ?_
      refine rc_iald X (pc := 82) _ (rb_arT6 (t := 0) (by decide)) (rb_tj6 (t := 0)) rfl (by omega) dX4_of_82 ?_
      refine rb_iret (S := []) X (pc := 83) Y dX4_of_83 ?_
      exact pc_0 hC (by simp [r_of, c5, c16, er])
    refine rc_tabC X (pc := 16) (v := 2) (i := 2) (tgt := 84) dX4_of_16 (by decide) (by decide) rfl (by decide) (fun c16 => ?_) (fun n16_2 => ?_)
    · refine rb_aload_n X (pc := 84) dX4_of_84 rfl rfl ?_
      refine rc_getO (q := 0) X (pc := 85) fX4_10 rb_ob8 rfl dX4_of_85 ?_
      refine rc_getR X (pc := 88) fX4_102 (rb_obT (t := 0) (by decide)) rfl dX4_of_88 ?_
      refine rb_iload_n X (pc := 91) dX4_of_91 rfl rfl ?_
      refine rc_iald X (pc := 92) _ (rb_arT7 (t := 0) (by decide)) (rb_tj7 (t := 0)) rfl (by omega) dX4_of_92 ?_
      refine rb_iret (S := []) X (pc := 93) Y dX4_of_93 ?_
      exact pc_0 hC (by simp [r_of, c5, c16, er])
    refine rc_tabC X (pc := 16) (v := 3) (i := 3) (tgt := 94) dX4_of_16 (by decide) (by decide) rfl (by decide) (fun c16 => ?_) (fun n16_3 => ?_)
    · refine rb_aload_n X (pc := 94) dX4_of_94 rfl rfl ?_
      refine rc_getO (q := 0) X (pc := 95) fX4_10 rb_ob8 rfl dX4_of_95 ?_
      refine rc_getR X (pc := 98) fX4_105 (rb_obT (t := 0) (by decide)) rfl dX4_of_98 ?_
      refine rb_iload_n X (pc := 101) dX4_of_101 rfl rfl ?_
      refine rc_iald X (pc := 102) _ (rb_arT8 (t := 0) (by decide)) (rb_tj8 (t := 0)) rfl (by omega) dX4_of_102 ?_
      refine rb_iret (S := []) X (pc := 103) Y dX4_of_103 ?_
      exact pc_0 hC (by simp [r_of, c5, c16, er])
    refine rc_tabC X (pc := 16) (v := 4) (i := 4) (tgt := 104) dX4_of_16 (by decide) (by decide) rfl (by decide) (fun c16 => ?_) (fun n16_4 => ?_)
    · refine rb_aload_n X (pc := 104) dX4_of_104 rfl rfl ?_
      refine rc_getO (q := 0) X (pc := 105) fX4_10 rb_ob8 rfl dX4_of_105 ?_
      refine rc_getR X (pc := 108) fX4_108 (rb_obT (t := 0) (by decide)) rfl dX4_of_108 ?_
      refine rb_iload_n X (pc := 111) dX4_of_111 rfl rfl ?_
      refine rc_iald X (pc := 112) _ (rb_arT9 (t := 0) (by decide)) (rb_tj9 (t := 0)) rfl (by omega) dX4_of_112 ?_
      refine rb_iret (S := []) X (pc := 113) Y dX4_of_113 ?_
      exact pc_0 hC (by simp [r_of, c5, c16, er])
    refine rc_tabC X (pc := 16) (v := 5) (i := 5) (tgt := 114) dX4_of_16 (by decide) (by decide) rfl (by decide) (fun c16 => ?_) (fun n16_5 => ?_)
    · refine rb_aload_n X (pc := 114) dX4_of_114 rfl rfl ?_
      refine rc_getO (q := 0) X (pc := 115) fX4_10 rb_ob8 rfl dX4_of_115 ?_
      refine rb_iload_n X (pc := 118) dX4_of_118 rfl rfl ?_
      refine rc_callVi X (pc := 119) cvX3_eatsOf mX4_111 (rb_obT (t := 0) (by decide)) (qX3_eatsOf (t := 0) (by decide) (by omega)) (by decide) rfl rfl (Nat.le_of_ble_eq_true rfl) dX4_of_119 ?_
      refine rb_iret (S := []) X (pc := 122) Y dX4_of_122 ?_
      exact pc_0 hC (by simp [r_of, c5, c16, er])
    refine rc_tabC X (pc := 16) (v := 6) (i := 6) (tgt := 123) dX4_of_16 (by decide) (by decide) rfl (by decide) (fun c16 => ?_) (fun n16_6 => ?_)
    · refine rb_aload_n X (pc := 123) dX4_of_123 rfl rfl ?_
      refine rc_getO (q := 0) X (pc := 124) fX4_10 rb_ob8 rfl dX4_of_124 ?_
      refine rb_iload_n X (pc := 127) dX4_of_127 rfl rfl ?_
      refine rc_callVi X (pc := 128) cvX3_needsOf mX4_114 (rb_obT (t := 0) (by decide)) (qX3_needsOf (t := 0) (by decide) (by omega)) (by decide) rfl rfl (Nat.le_of_ble_eq_true rfl) dX4_of_128 ?_
      refine rb_iret (S := []) X (pc := 131) Y dX4_of_131 ?_
      exact pc_0 hC (by simp [r_of, c5, c16, er])
    refine rc_tabC X (pc := 16) (v := 7) (i := 7) (tgt := 132) dX4_of_16 (by decide) (by decide) rfl (by decide) (fun c16 => ?_) (fun n16_7 => ?_)
    · refine rb_aload_n X (pc := 132) dX4_of_132 rfl rfl ?_
      refine rc_getO (q := 0) X (pc := 133) fX4_10 rb_ob8 rfl dX4_of_133 ?_
      refine rb_iload_n X (pc := 136) dX4_of_136 rfl rfl ?_
      refine rc_callVi X (pc := 137) cvX3_growsOf mX4_117 (rb_obT (t := 0) (by decide)) (qX3_growsOf (t := 0) (by decide) (by omega)) (by decide) rfl rfl (Nat.le_of_ble_eq_true rfl) dX4_of_137 ?_
      refine rb_iret (S := []) X (pc := 140) Y dX4_of_140 ?_
      exact pc_0 hC (by simp [r_of, c5, c16, er])
    refine rb_tabOut X (pc := 16) (tgt := 141) dX4_of_16 (by have z0 := lv_neT n16_0 (a := 0) rfl; have z1 := lv_neT n16_1 (a := 1) rfl; have z2 := lv_neT n16_2 (a := 2) rfl; have z3 := lv_neT n16_3 (a := 3) rfl; have z4 := lv_neT n16_4 (a := 4) rfl; have z5 := lv_neT n16_5 (a := 5) rfl; have z6 := lv_neT n16_6 (a := 6) rfl; have z7 := lv_neT n16_7 (a := 7) rfl; omega) (by decide) ?_
    refine rb_aload_n X (pc := 141) dX4_of_141 rfl rfl ?_
    refine rb_ldc X (pc := 142) dX4_of_142 kX4_56 ?_
    refine rc_callVi X (pc := 144) cvX4_finding mX4_57 rb_ob8 (qX4_finding (i := 0) (by decide) (by decide)) (by decide) rfl rfl (Nat.le_of_ble_eq_true rfl) dX4_of_144 ?_
    refine rb_iret (S := []) X (pc := 147) Y dX4_of_147 ?_
    exact pc_f hC (by simp [r_of, ff_0, *])
  · (try simp only [sp_b0, Classical.not_not] at c5)
    refine rb_aload_n X (pc := 8) dX4_of_8 rfl rfl ?_
    refine rb_ldc X (pc := 9) dX4_of_9 kX4_56 ?_
    refine rc_callVi X (pc := 11) cvX4_finding mX4_57 rb_ob8 (qX4_finding (i := 0) (by decide) (by decide)) (by decide) rfl rfl (Nat.le_of_ble_eq_true rfl) dX4_of_11 ?_
    refine rb_iret (S := []) X (pc := 14) Y dX4_of_14 ?_
    first
    | exact pc_f hC (by simp [r_of, ff_0, *]; done)
    | exact pc_Af hC (by simp [r_of, ff_0, *]; done)
set_option maxRecDepth 100000 in
set_option maxHeartbeats 1000000 in
theorem qX4_set {G : rb_G} {σ : Sg} {h : rb_H} (hS : okS σ) (hC : CI σ h)  (r0 w v : Int32) : rb_M G 1 yX4_set cX4_set 6 (some .int) [.ref (rb_ad G 8 0), .int r0, .int w, .int v] (h) (PC h (r_set σ r0 w v)) := by
  refine rb_meth (L := [.ref (rb_ad G 8 0), .int r0, .int w, .int v, .null, .null]) (by decide) (Nat.le_of_ble_eq_true rfl) rfl (fun Z X Y => ?_)
  have X : rb_CX Z G cX4_set 6 RX4 1 := X
  obtain ⟨h, rfl⟩ : ∃ h0, h = tw h0 0 (sT σ) := ⟨h, (rb_st_self hC.1).symm⟩
  have hok := hS.1
  have hn4 := hok.1
  have hn10 := hok.2.1
  refine rb_aload_n X (pc := 0) dX4_set_0 rfl rfl ?_
  refine rb_iload_n X (pc := 1) dX4_set_1 rfl rfl ?_
  refine rc_callVi X (pc := 2) cvX4_isRumour mX4_93 rb_ob8 (qX4_isRumour _) (by decide) rfl rfl (Nat.le_of_ble_eq_true rfl) dX4_set_2 ?_
  refine rb_if_eq X (pc := 5) (tgt := 19) dX4_set_5 (by decide) (fun c5 => ?_) (fun c5 => ?_)
  · (try simp only [sp_b0, Classical.not_not] at c5)
    refine rb_aload_n X (pc := 19) dX4_set_19 rfl rfl ?_
    refine rb_ldc X (pc := 20) dX4_set_20 kX4_56 ?_
    refine rc_callVi X (pc := 22) cvX4_finding mX4_57 rb_ob8 (qX4_finding (i := 0) (by decide) (by decide)) (by decide) rfl rfl (Nat.le_of_ble_eq_true rfl) dX4_set_22 ?_
    refine rb_iret (S := []) X (pc := 25) Y dX4_set_25 ?_
    exact pc_f hC (by
      first
      | (simp [r_set, ff_0, c5]; done)
      | (rw [r_set, if_neg, ff_0]; by_cases z0 : w = 1 <;> by_cases z1 : w = 2 <;> by_cases z2 : w = 3 <;> simp_all [m_rum]))
  · (try simp only [sp_b0, Classical.not_not] at c5)
    refine rb_iload_n X (pc := 8) dX4_set_8 rfl rfl ?_
    refine rb_iload_n X (pc := 9) dX4_set_9 rfl rfl ?_
    refine rc_callSi X (pc := 10) cvX4_mostOfRumour mX4_120 (qX4_mostOfRumour _) (by decide) rfl rfl (Nat.le_of_ble_eq_true rfl) dX4_set_10 ?_
    refine rc_callSi X (pc := 13) cvX4_isWithin mX4_52 (qX4_isWithin _ _) (by decide) rfl rfl (Nat.le_of_ble_eq_true rfl) dX4_set_13 ?_
    refine rb_if_ne X (pc := 16) (tgt := 26) dX4_set_16 (by decide) (fun c16 => ?_) (fun c16 => ?_)
    · (try simp only [sp_b0, Classical.not_not] at c16)
      obtain ⟨r, hr, rfl⟩ := iR_of hok c5
      have er : ix (nI r) = r := nI_clamp (by omega)
      refine rb_iload_n X (pc := 26) dX4_set_26 rfl rfl ?_
      refine rb_iconst (v := 1) X (pc := 27) dX4_set_27 (by decide) ?_
      refine rb_icmp_ne X (pc := 28) (tgt := 41) dX4_set_28 (by decide) (fun c28 => ?_) (fun c28 => ?_)
      · refine rb_iload_n X (pc := 41) dX4_set_41 rfl rfl ?_
        refine rb_iconst (v := 2) X (pc := 42) dX4_set_42 (by decide) ?_
        refine rb_icmp_ne X (pc := 43) (tgt := 56) dX4_set_43 (by decide) (fun c43 => ?_) (fun c43 => ?_)
        · have c44 : w = 3 := by
            by_cases z : w = 3
            · exact z
            · simp [m_rum, c28, c43, z, iN_m1] at c16
          subst c44
          refine rb_aload_n X (pc := 56) dX4_set_56 rfl rfl ?_
          refine rc_getO (q := 0) X (pc := 57) fX4_10 rb_ob8 rfl dX4_set_57 ?_
          refine rc_getR X (pc := 60) fX4_105 (rb_obT (t := 0) (by decide)) rfl dX4_set_60 ?_
          refine rb_astore X (pc := 63) dX4_set_63 (by decide) rfl rfl ?_
          refine rb_aload X (pc := 65) dX4_set_65 rfl ?_
          refine rb_iload_n X (pc := 67) dX4_set_67 rfl rfl ?_
          refine rc_iald X (pc := 68) _ (rb_arT8 (t := 0) (by decide)) (rb_tj8 (t := 0)) rfl (by omega) dX4_set_68 ?_
          refine rb_istore X (pc := 69) dX4_set_69 (by decide) rfl rfl ?_
          refine rb_aload X (pc := 71) dX4_set_71 rfl ?_
          refine rb_iload_n X (pc := 73) dX4_set_73 rfl rfl ?_
          refine rb_iload_n X (pc := 74) dX4_set_74 rfl rfl ?_
          refine rc_iast X (pc := 75) _ (rb_arT8 (t := 0) (by decide)) (tw_u (by decide) (by decide) (by decide)) rfl (by omega) dX4_set_75 ?_
          refine rb_iload X (pc := 76) dX4_set_76 rfl ?_
          refine rb_iret (S := []) X (pc := 78) Y dX4_set_78 ?_
          exact pc_T hC (by simp_all [r_set, m_rum, ix_1, ix_2, ix_3]; try rfl)
        · have c43 : w = 2 := by simpa using c43
          subst c43
          refine rb_aload_n X (pc := 46) dX4_set_46 rfl rfl ?_
          refine rc_getO (q := 0) X (pc := 47) fX4_10 rb_ob8 rfl dX4_set_47 ?_
          refine rc_getR X (pc := 50) fX4_102 (rb_obT (t := 0) (by decide)) rfl dX4_set_50 ?_
          refine rb_goto X (pc := 53) (tgt := 63) dX4_set_53 (by decide) ?_
          refine rb_astore X (pc := 63) dX4_set_63 (by decide) rfl rfl ?_
          refine rb_aload X (pc := 65) dX4_set_65 rfl ?_
          refine rb_iload_n X (pc := 67) dX4_set_67 rfl rfl ?_
          refine rc_iald X (pc := 68) _ (rb_arT7 (t := 0) (by decide)) (rb_tj7 (t := 0)) rfl (by omega) dX4_set_68 ?_
          refine rb_istore X (pc := 69) dX4_set_69 (by decide) rfl rfl ?_
          refine rb_aload X (pc := 71) dX4_set_71 rfl ?_
          refine rb_iload_n X (pc := 73) dX4_set_73 rfl rfl ?_
          refine rb_iload_n X (pc := 74) dX4_set_74 rfl rfl ?_
          refine rc_iast X (pc := 75) _ (rb_arT7 (t := 0) (by decide)) (tw_u (by decide) (by decide) (by decide)) rfl (by omega) dX4_set_75 ?_
          refine rb_iload X (pc := 76) dX4_set_76 rfl ?_
          refine rb_iret (S := []) X (pc := 78) Y dX4_set_78 ?_
          exact pc_T hC (by simp_all [r_set, m_rum, ix_1, ix_2, ix_3]; try rfl)
      · have c28 : w = 1 := by simpa using c28
        subst c28
        refine rb_aload_n X (pc := 31) dX4_set_31 rfl rfl ?_
        refine rc_getO (q := 0) X (pc := 32) fX4_10 rb_ob8 rfl dX4_set_32 ?_
        refine rc_getR X (pc := 35) fX4_99 (rb_obT (t := 0) (by decide)) rfl dX4_set_35 ?_
        refine rb_goto X (pc := 38) (tgt := 63) dX4_set_38 (by decide) ?_
        refine rb_astore X (pc := 63) dX4_set_63 (by decide) rfl rfl ?_
        refine rb_aload X (pc := 65) dX4_set_65 rfl ?_
        refine rb_iload_n X (pc := 67) dX4_set_67 rfl rfl ?_
        refine rc_iald X (pc := 68) _ (rb_arT6 (t := 0) (by decide)) (rb_tj6 (t := 0)) rfl (by omega) dX4_set_68 ?_
        refine rb_istore X (pc := 69) dX4_set_69 (by decide) rfl rfl ?_
        refine rb_aload X (pc := 71) dX4_set_71 rfl ?_
        refine rb_iload_n X (pc := 73) dX4_set_73 rfl rfl ?_
        refine rb_iload_n X (pc := 74) dX4_set_74 rfl rfl ?_
        refine rc_iast X (pc := 75) _ (rb_arT6 (t := 0) (by decide)) (tw_u (by decide) (by decide) (by decide)) rfl (by omega) dX4_set_75 ?_
        refine rb_iload X (pc := 76) dX4_set_76 rfl ?_
        refine rb_iret (S := []) X (pc := 78) Y dX4_set_78 ?_
        exact pc_T hC (by simp_all [r_set, m_rum, ix_1, ix_2, ix_3]; try rfl)
    · (try simp only [sp_b0, Classical.not_not] at c16)
      refine rb_aload_n X (pc := 19) dX4_set_19 rfl rfl ?_
      refine rb_ldc X (pc := 20) dX4_set_20 kX4_56 ?_
      refine rc_callVi X (pc := 22) cvX4_finding mX4_57 rb_ob8 (qX4_finding (i := 0) (by decide) (by decide)) (by decide) rfl rfl (Nat.le_of_ble_eq_true rfl) dX4_set_22 ?_
      refine rb_iret (S := []) X (pc := 25) Y dX4_set_25 ?_
      exact pc_f hC (by
        first
        | (simp [r_set, ff_0, c5]; done)
        | (rw [r_set, if_neg, ff_0]; by_cases z0 : w = 1 <;> by_cases z1 : w = 2 <;> by_cases z2 : w = 3 <;> simp_all [m_rum]))
set_option maxRecDepth 100000 in
set_option maxHeartbeats 1000000 in
theorem qX4_turn {G : rb_G} {σ : Sg} {h : rb_H} (hS : okS σ) (hC : CI σ h)  (r0 k : Int32) : rb_M G 1 yX4_turn cX4_turn 4 (some .int) [.ref (rb_ad G 8 0), .int r0, .int k] (h) (PC h (r_turn σ r0 k)) := by
  refine rb_meth (L := [.ref (rb_ad G 8 0), .int r0, .int k, .null]) (by decide) (Nat.le_of_ble_eq_true rfl) rfl (fun Z X Y => ?_)
  have X : rb_CX Z G cX4_turn 4 RX4 1 := X
  obtain ⟨h, rfl⟩ : ∃ h0, h = tw h0 0 (sT σ) := ⟨h, (rb_st_self hC.1).symm⟩
  have hok := hS.1
  have hn4 := hok.1
  have hn10 := hok.2.1
  refine rb_aload_n X (pc := 0) dX4_turn_0 rfl rfl ?_
  refine rb_iload_n X (pc := 1) dX4_turn_1 rfl rfl ?_
  refine rc_callVi X (pc := 2) cvX4_isRumour mX4_93 rb_ob8 (qX4_isRumour _) (by decide) rfl rfl (Nat.le_of_ble_eq_true rfl) dX4_turn_2 ?_
  refine rb_if_eq X (pc := 5) (tgt := 15) dX4_turn_5 (by decide) (fun c5 => ?_) (fun c5 => ?_)
  · (try simp only [sp_b0, Classical.not_not] at c5)
    refine rb_aload_n X (pc := 15) dX4_turn_15 rfl rfl ?_
    refine rb_ldc X (pc := 16) dX4_turn_16 kX4_56 ?_
    refine rc_callVi X (pc := 18) cvX4_finding mX4_57 rb_ob8 (qX4_finding (i := 0) (by decide) (by decide)) (by decide) rfl rfl (Nat.le_of_ble_eq_true rfl) dX4_turn_18 ?_
    refine rb_iret (S := []) X (pc := 21) Y dX4_turn_21 ?_
    first
    | exact pc_f hC (by simp [r_turn, ff_0, *]; done)
    | exact pc_Af hC (by simp [r_turn, ff_0, *]; done)
  · (try simp only [sp_b0, Classical.not_not] at c5)
    refine rb_iload_n X (pc := 8) dX4_turn_8 rfl rfl ?_
    refine rc_callSi X (pc := 9) cvX4_isKind mX4_78 (qX4_isKind _) (by decide) rfl rfl (Nat.le_of_ble_eq_true rfl) dX4_turn_9 ?_
    refine rb_if_ne X (pc := 12) (tgt := 22) dX4_turn_12 (by decide) (fun c12 => ?_) (fun c12 => ?_)
    · (try simp only [sp_b0, Classical.not_not] at c12)
      obtain ⟨r, hr, rfl⟩ := iR_of hok c5
      have er : ix (nI r) = r := nI_clamp (by omega)
      refine rb_aload_n X (pc := 22) dX4_turn_22 rfl rfl ?_
      refine rc_getO (q := 0) X (pc := 23) fX4_10 rb_ob8 rfl dX4_turn_23 ?_
      refine rc_getR X (pc := 26) fX4_96 (rb_obT (t := 0) (by decide)) rfl dX4_turn_26 ?_
      refine rb_iload_n X (pc := 29) dX4_turn_29 rfl rfl ?_
      refine rc_iald X (pc := 30) _ (rb_arT5 (t := 0) (by decide)) (rb_tj5 (t := 0)) rfl (by omega) dX4_turn_30 ?_
      refine rb_istore_n X (pc := 31) dX4_turn_31 rfl (by decide) rfl rfl ?_
      refine rb_aload_n X (pc := 32) dX4_turn_32 rfl rfl ?_
      refine rc_getO (q := 0) X (pc := 33) fX4_10 rb_ob8 rfl dX4_turn_33 ?_
      refine rc_getR X (pc := 36) fX4_96 (rb_obT (t := 0) (by decide)) rfl dX4_turn_36 ?_
      refine rb_iload_n X (pc := 39) dX4_turn_39 rfl rfl ?_
      refine rb_iload_n X (pc := 40) dX4_turn_40 rfl rfl ?_
      refine rc_iast X (pc := 41) _ (rb_arT5 (t := 0) (by decide)) (tw_u (by decide) (by decide) (by decide)) rfl (by omega) dX4_turn_41 ?_
      refine rb_iload_n X (pc := 42) dX4_turn_42 rfl rfl ?_
      refine rb_iret (S := []) X (pc := 43) Y dX4_turn_43 ?_
      exact pc_T hC (by simp [r_turn, c5, c12, er])
    · (try simp only [sp_b0, Classical.not_not] at c12)
      refine rb_aload_n X (pc := 15) dX4_turn_15 rfl rfl ?_
      refine rb_ldc X (pc := 16) dX4_turn_16 kX4_56 ?_
      refine rc_callVi X (pc := 18) cvX4_finding mX4_57 rb_ob8 (qX4_finding (i := 0) (by decide) (by decide)) (by decide) rfl rfl (Nat.le_of_ble_eq_true rfl) dX4_turn_18 ?_
      refine rb_iret (S := []) X (pc := 21) Y dX4_turn_21 ?_
      first
      | exact pc_f hC (by simp [r_turn, ff_0, *]; done)
      | exact pc_Af hC (by simp [r_turn, ff_0, *]; done)
set_option maxRecDepth 100000 in
set_option maxHeartbeats 1000000 in
theorem qX4_takes {G : rb_G} {σ : Sg} {h : rb_H} (hS : okS σ) (hC : CI σ h)  (a r0 : Int32) : rb_M G 2 yX4_takes cX4_takes 3 (some .int) [.ref (rb_ad G 8 0), .int a, .int r0] (h) (PC h (r_takes σ a r0)) := by
  refine rb_meth (L := [.ref (rb_ad G 8 0), .int a, .int r0]) (by decide) (Nat.le_of_ble_eq_true rfl) rfl (fun Z X Y => ?_)
  have X : rb_CX Z G cX4_takes 3 RX4 2 := X
  obtain ⟨h, rfl⟩ : ∃ h0, h = tw h0 0 (sT σ) := ⟨h, (rb_st_self hC.1).symm⟩
  have hok := hS.1
  have hn4 := hok.1
  have hn10 := hok.2.1
  refine rb_iload_n X (pc := 0) dX4_takes_0 rfl rfl ?_
  refine rc_callSi X (pc := 1) cvX4_isHouse mX4_44 (qX4_isHouse _) (by decide) rfl rfl (Nat.le_of_ble_eq_true rfl) dX4_takes_1 ?_
  refine rb_if_eq X (pc := 4) (tgt := 15) dX4_takes_4 (by decide) (fun c4 => ?_) (fun c4 => ?_)
  · (try simp only [sp_b0, Classical.not_not] at c4)
    refine rb_aload_n X (pc := 15) dX4_takes_15 rfl rfl ?_
    refine rb_ldc X (pc := 16) dX4_takes_16 kX4_56 ?_
    refine rc_callVi X (pc := 18) cvX4_finding mX4_57 rb_ob8 (qX4_finding (i := 0) (by decide) (by decide)) (by decide) rfl rfl (Nat.le_of_ble_eq_true rfl) dX4_takes_18 ?_
    refine rb_iret (S := []) X (pc := 21) Y dX4_takes_21 ?_
    first
    | exact pc_f hC (by simp [r_takes, ff_0, *]; done)
    | exact pc_Af hC (by simp [r_takes, ff_0, *]; done)
  · (try simp only [sp_b0, Classical.not_not] at c4)
    refine rb_aload_n X (pc := 7) dX4_takes_7 rfl rfl ?_
    refine rb_iload_n X (pc := 8) dX4_takes_8 rfl rfl ?_
    refine rc_callVi X (pc := 9) cvX4_isRumour mX4_93 rb_ob8 (qX4_isRumour _) (by decide) rfl rfl (Nat.le_of_ble_eq_true rfl) dX4_takes_9 ?_
    refine rb_if_ne X (pc := 12) (tgt := 22) dX4_takes_12 (by decide) (fun c12 => ?_) (fun c12 => ?_)
    · (try simp only [sp_b0, Classical.not_not] at c12)
      obtain ⟨q, hq, rfl⟩ := iH_of c4
      obtain ⟨r, hr, rfl⟩ := iR_of hok c12
      have er : ix (nI r) = r := nI_clamp (by omega)
      have eq1 : ix (nI q) = q := nI_clamp (by omega)
      refine rb_aload_n X (pc := 22) dX4_takes_22 rfl rfl ?_
      refine rc_getO (q := 0) X (pc := 23) fX4_10 rb_ob8 rfl dX4_takes_23 ?_
      refine rb_iload_n X (pc := 26) dX4_takes_26 rfl rfl ?_
      refine rb_aload_n X (pc := 27) dX4_takes_27 rfl rfl ?_
      refine rc_getO (q := 0) X (pc := 28) fX4_10 rb_ob8 rfl dX4_takes_28 ?_
      refine rb_iload_n X (pc := 31) dX4_takes_31 rfl rfl ?_
      refine rc_callVi X (pc := 32) cvX3_needsOf mX4_114 (rb_obT (t := 0) (by decide)) (qX3_needsOf (t := 0) (by decide) (by omega)) (by decide) rfl rfl (Nat.le_of_ble_eq_true rfl) dX4_takes_32 ?_
      refine rc_callVi X (pc := 35) cvX3_wouldTake mX4_129 (rb_obT (t := 0) (by decide)) (qX3_wouldTake (t := 0) (by decide) (by omega) _) (by decide) rfl rfl (Nat.le_of_ble_eq_true rfl) dX4_takes_35 ?_
      refine rb_if_eq X (pc := 38) (tgt := 45) dX4_takes_38 (by decide) (fun c38 => ?_) (fun c38 => ?_)
      · (try simp only [sp_b0, Classical.not_not] at c38)
        refine rb_iconst (v := 0) X (pc := 45) dX4_takes_45 (by decide) ?_
        refine rb_iret (S := []) X (pc := 46) Y dX4_takes_46 ?_
        exact pc_0 hC (by simp only [r_takes, c4, c12, er, eq1]; simp [c38])
      · (try simp only [sp_b0, Classical.not_not] at c38)
        refine rb_iconst (v := 1) X (pc := 41) dX4_takes_41 (by decide) ?_
        refine rb_goto X (pc := 42) (tgt := 46) dX4_takes_42 (by decide) ?_
        refine rb_iret (S := []) X (pc := 46) Y dX4_takes_46 ?_
        exact pc_0 hC (by simp only [r_takes, c4, c12, er, eq1]; simp [c38])
    · (try simp only [sp_b0, Classical.not_not] at c12)
      refine rb_aload_n X (pc := 15) dX4_takes_15 rfl rfl ?_
      refine rb_ldc X (pc := 16) dX4_takes_16 kX4_56 ?_
      refine rc_callVi X (pc := 18) cvX4_finding mX4_57 rb_ob8 (qX4_finding (i := 0) (by decide) (by decide)) (by decide) rfl rfl (Nat.le_of_ble_eq_true rfl) dX4_takes_18 ?_
      refine rb_iret (S := []) X (pc := 21) Y dX4_takes_21 ?_
      first
      | exact pc_f hC (by simp [r_takes, ff_0, *]; done)
      | exact pc_Af hC (by simp [r_takes, ff_0, *]; done)
set_option maxRecDepth 100000 in
set_option maxHeartbeats 1000000 in
theorem qX4_comeIn {G : rb_G} {σ : Sg} {h : rb_H} (hS : okS σ) (hC : CI σ h)  (r0 : Int32) : rb_M G 3 yX4_comeIn cX4_comeIn 3 (some .int) [.ref (rb_ad G 8 0), .int r0] (h) (PC h (r_comeIn σ r0)) := by
  refine rb_meth (L := [.ref (rb_ad G 8 0), .int r0, .null]) (by decide) (Nat.le_of_ble_eq_true rfl) rfl (fun Z X Y => ?_)
  have X : rb_CX Z G cX4_comeIn 3 RX4 3 := X
  obtain ⟨h, rfl⟩ : ∃ h0, h = tw h0 0 (sT σ) := ⟨h, (rb_st_self hC.1).symm⟩
  have hok := hS.1
  have hn4 := hok.1
  have hn10 := hok.2.1
  refine rb_aload_n X (pc := 0) dX4_comeIn_0 rfl rfl ?_
  refine rb_iload_n X (pc := 1) dX4_comeIn_1 rfl rfl ?_
  refine rc_callVi X (pc := 2) cvX4_isRumour mX4_93 rb_ob8 (qX4_isRumour _) (by decide) rfl rfl (Nat.le_of_ble_eq_true rfl) dX4_comeIn_2 ?_
  refine rb_if_ne X (pc := 5) (tgt := 15) dX4_comeIn_5 (by decide) (fun c5 => ?_) (fun c5 => ?_)
  · (try simp only [sp_b0, Classical.not_not] at c5)
    obtain ⟨r, hr, rfl⟩ := iR_of hok c5
    have er : ix (nI r) = r := nI_clamp (by omega)
    refine rb_aload_n X (pc := 15) dX4_comeIn_15 rfl rfl ?_
    refine rc_getO (q := 0) X (pc := 16) fX4_10 rb_ob8 rfl dX4_comeIn_16 ?_
    refine rc_getR X (pc := 19) fX4_108 (rb_obT (t := 0) (by decide)) rfl dX4_comeIn_19 ?_
    refine rb_iload_n X (pc := 22) dX4_comeIn_22 rfl rfl ?_
    refine rc_iald X (pc := 23) _ (rb_arT9 (t := 0) (by decide)) (rb_tj9 (t := 0)) rfl (by omega) dX4_comeIn_23 ?_
    refine rb_iconst (v := (-1)) X (pc := 24) dX4_comeIn_24 (by decide) ?_
    refine rb_icmp_ne X (pc := 25) (tgt := 47) dX4_comeIn_25 (by decide) (fun c25 => ?_) (fun c25 => ?_)
    · refine rb_aload_n X (pc := 47) dX4_comeIn_47 rfl rfl ?_
      refine rb_ldc X (pc := 48) dX4_comeIn_48 kX4_135 ?_
      refine rc_callVi X (pc := 50) cvX4_finding mX4_57 rb_ob8 (qX4_finding (i := 4) (by decide) (by decide)) (by decide) rfl rfl (Nat.le_of_ble_eq_true rfl) dX4_comeIn_50 ?_
      refine rb_iret (S := []) X (pc := 53) Y dX4_comeIn_53 ?_
      exact pc_f hC (by rw [r_comeIn, if_pos c5, er, if_pos (by first | exact Or.inl c25 | exact Or.inr c44), ff_4])
    · refine rb_aload_n X (pc := 28) dX4_comeIn_28 rfl rfl ?_
      refine rc_getO (q := 0) X (pc := 29) fX4_10 rb_ob8 rfl dX4_comeIn_29 ?_
      refine rb_aload_n X (pc := 32) dX4_comeIn_32 rfl rfl ?_
      refine rc_getO (q := 0) X (pc := 33) fX4_10 rb_ob8 rfl dX4_comeIn_33 ?_
      refine rc_getR X (pc := 36) fX4_99 (rb_obT (t := 0) (by decide)) rfl dX4_comeIn_36 ?_
      refine rb_iload_n X (pc := 39) dX4_comeIn_39 rfl rfl ?_
      refine rc_iald X (pc := 40) _ (rb_arT6 (t := 0) (by decide)) (rb_tj6 (t := 0)) rfl (by omega) dX4_comeIn_40 ?_
      refine rc_callVi X (pc := 41) cvX3_isTrue mX4_132 (rb_obT (t := 0) (by decide)) (qX3_isTrue (t := 0) (by decide) _) (by decide) rfl rfl (Nat.le_of_ble_eq_true rfl) dX4_comeIn_41 ?_
      refine rb_if_eq X (pc := 44) (tgt := 54) dX4_comeIn_44 (by decide) (fun c44 => ?_) (fun c44 => ?_)
      · (try simp only [sp_b0, Classical.not_not] at c44)
        refine rb_aload_n X (pc := 54) dX4_comeIn_54 rfl rfl ?_
        refine rc_getO (q := 0) X (pc := 55) fX4_10 rb_ob8 rfl dX4_comeIn_55 ?_
        refine rb_iload_n X (pc := 58) dX4_comeIn_58 rfl rfl ?_
        refine rc_callVi X (pc := 59) cvX3_hostFor mX4_136 (rb_obT (t := 0) (by decide)) (qX3_hostFor (t := 0) (by decide) (by omega)) (by decide) rfl rfl (Nat.le_of_ble_eq_true rfl) dX4_comeIn_59 ?_
        refine rb_istore_n X (pc := 62) dX4_comeIn_62 rfl (by decide) rfl rfl ?_
        refine rb_aload_n X (pc := 63) dX4_comeIn_63 rfl rfl ?_
        refine rc_getO (q := 0) X (pc := 64) fX4_10 rb_ob8 rfl dX4_comeIn_64 ?_
        refine rb_iload_n X (pc := 67) dX4_comeIn_67 rfl rfl ?_
        refine rb_iload_n X (pc := 68) dX4_comeIn_68 rfl rfl ?_
        refine rc_callVv X (pc := 69) cvX3_lodge mX4_139 (rb_obT (t := 0) (by decide)) (qX3_lodge (t := 0) (by decide) (by omega) (by omega) (hok.2.2.1 r (by omega)).2.2.2.2 (sp_host_ok _ _)) (by decide) rfl rfl (Nat.le_of_ble_eq_true rfl) dX4_comeIn_69 ?_
        refine rb_iload_n X (pc := 72) dX4_comeIn_72 rfl rfl ?_
        refine rb_iret (S := []) X (pc := 73) Y dX4_comeIn_73 ?_
        exact pc_T hC (by rw [r_comeIn, if_pos c5, er, if_neg (fun z => z.elim (fun w => w (by first | exact c25 | simpa using c25)) (fun w => w c44))])
      · (try simp only [sp_b0, Classical.not_not] at c44)
        refine rb_aload_n X (pc := 47) dX4_comeIn_47 rfl rfl ?_
        refine rb_ldc X (pc := 48) dX4_comeIn_48 kX4_135 ?_
        refine rc_callVi X (pc := 50) cvX4_finding mX4_57 rb_ob8 (qX4_finding (i := 4) (by decide) (by decide)) (by decide) rfl rfl (Nat.le_of_ble_eq_true rfl) dX4_comeIn_50 ?_
        refine rb_iret (S := []) X (pc := 53) Y dX4_comeIn_53 ?_
        exact pc_f hC (by rw [r_comeIn, if_pos c5, er, if_pos (by first | exact Or.inl c25 | exact Or.inr c44), ff_4])
  · (try simp only [sp_b0, Classical.not_not] at c5)
    refine rb_aload_n X (pc := 8) dX4_comeIn_8 rfl rfl ?_
    refine rb_ldc X (pc := 9) dX4_comeIn_9 kX4_56 ?_
    refine rc_callVi X (pc := 11) cvX4_finding mX4_57 rb_ob8 (qX4_finding (i := 0) (by decide) (by decide)) (by decide) rfl rfl (Nat.le_of_ble_eq_true rfl) dX4_comeIn_11 ?_
    refine rb_iret (S := []) X (pc := 14) Y dX4_comeIn_14 ?_
    first
    | exact pc_f hC (by simp [r_comeIn, ff_0, *]; done)
    | exact pc_Af hC (by simp [r_comeIn, ff_0, *]; done)
set_option maxRecDepth 100000 in
set_option maxHeartbeats 1000000 in
theorem qX4_improve {G : rb_G} {σ : Sg} {h : rb_H} (hS : okS σ) (hC : CI σ h)  (r0 v : Int32) : rb_M G 3 yX4_improve cX4_improve 3 (some .int) [.ref (rb_ad G 8 0), .int r0, .int v] (h) (PC h (r_improve σ r0 v)) := by
  refine rb_meth (L := [.ref (rb_ad G 8 0), .int r0, .int v]) (by decide) (Nat.le_of_ble_eq_true rfl) rfl (fun Z X Y => ?_)
  have X : rb_CX Z G cX4_improve 3 RX4 3 := X
  obtain ⟨h, rfl⟩ : ∃ h0, h = tw h0 0 (sT σ) := ⟨h, (rb_st_self hC.1).symm⟩
  have hok := hS.1
  have hn4 := hok.1
  have hn10 := hok.2.1
  refine rb_aload_n X (pc := 0) dX4_improve_0 rfl rfl ?_
  refine rb_iload_n X (pc := 1) dX4_improve_1 rfl rfl ?_
  refine rc_callVi X (pc := 2) cvX4_isRumour mX4_93 rb_ob8 (qX4_isRumour _) (by decide) rfl rfl (Nat.le_of_ble_eq_true rfl) dX4_improve_2 ?_
  refine rb_if_eq X (pc := 5) (tgt := 19) dX4_improve_5 (by decide) (fun c5 => ?_) (fun c5 => ?_)
  · (try simp only [sp_b0, Classical.not_not] at c5)
    refine rb_aload_n X (pc := 19) dX4_improve_19 rfl rfl ?_
    refine rb_ldc X (pc := 20) dX4_improve_20 kX4_56 ?_
    refine rc_callVi X (pc := 22) cvX4_finding mX4_57 rb_ob8 (qX4_finding (i := 0) (by decide) (by decide)) (by decide) rfl rfl (Nat.le_of_ble_eq_true rfl) dX4_improve_22 ?_
    refine rb_iret (S := []) X (pc := 25) Y dX4_improve_25 ?_
    exact pc_f hC (by rw [r_improve, if_neg, ff_0]; intro z; simp only [Bool.and_eq_true, iV, decide_eq_true_eq] at z; first | exact c5 z.1 | exact absurd z.2.1 (Int32.not_le.mpr c10) | exact c16 z.2.2)
  · (try simp only [sp_b0, Classical.not_not] at c5)
    refine rb_iload_n X (pc := 8) dX4_improve_8 rfl rfl ?_
    refine rb_iconst (v := 1) X (pc := 9) dX4_improve_9 (by decide) ?_
    refine rb_icmp_lt X (pc := 10) (tgt := 19) dX4_improve_10 (by decide) (fun c10 => ?_) (fun c10 => ?_)
    · refine rb_aload_n X (pc := 19) dX4_improve_19 rfl rfl ?_
      refine rb_ldc X (pc := 20) dX4_improve_20 kX4_56 ?_
      refine rc_callVi X (pc := 22) cvX4_finding mX4_57 rb_ob8 (qX4_finding (i := 0) (by decide) (by decide)) (by decide) rfl rfl (Nat.le_of_ble_eq_true rfl) dX4_improve_22 ?_
      refine rb_iret (S := []) X (pc := 25) Y dX4_improve_25 ?_
      exact pc_f hC (by rw [r_improve, if_neg, ff_0]; intro z; simp only [Bool.and_eq_true, iV, decide_eq_true_eq] at z; first | exact c5 z.1 | exact absurd z.2.1 (Int32.not_le.mpr c10) | exact c16 z.2.2)
    · refine rb_iload_n X (pc := 13) dX4_improve_13 rfl rfl ?_
      refine rb_bipush (v := 20) X (pc := 14) dX4_improve_14 (by decide) ?_
      refine rb_icmp_le X (pc := 16) (tgt := 26) dX4_improve_16 (by decide) (fun c16 => ?_) (fun c16 => ?_)
      · obtain ⟨r, hr, rfl⟩ := iR_of hok c5
        have er : ix (nI r) = r := nI_clamp (by omega)
        have cv : iV v 20 = true := by simp [iV, Int32.not_lt.mp c10, c16]
        refine rb_aload_n X (pc := 26) dX4_improve_26 rfl rfl ?_
        refine rc_getO (q := 0) X (pc := 27) fX4_10 rb_ob8 rfl dX4_improve_27 ?_
        refine rc_getR X (pc := 30) fX4_108 (rb_obT (t := 0) (by decide)) rfl dX4_improve_30 ?_
        refine rb_iload_n X (pc := 33) dX4_improve_33 rfl rfl ?_
        refine rc_iald X (pc := 34) _ (rb_arT9 (t := 0) (by decide)) (rb_tj9 (t := 0)) rfl (by omega) dX4_improve_34 ?_
        refine rb_iconst (v := (-1)) X (pc := 35) dX4_improve_35 (by decide) ?_
        refine rb_icmp_ne X (pc := 36) (tgt := 46) dX4_improve_36 (by decide) (fun c36 => ?_) (fun c36 => ?_)
        · obtain ⟨p, hp1, hp⟩ := sp_pl_ne (hok.2.2.1 r (by omega)).2.2.2.2 c36
          refine rb_aload_n X (pc := 46) dX4_improve_46 rfl rfl ?_
          refine rc_getO (q := 0) X (pc := 47) fX4_10 rb_ob8 rfl dX4_improve_47 ?_
          refine rb_iload_n X (pc := 50) dX4_improve_50 rfl rfl ?_
          refine rb_iload_n X (pc := 51) dX4_improve_51 rfl rfl ?_
          refine rc_callVv X (pc := 52) cvX3_improveBy mX4_143 (rb_obT (t := 0) (by decide)) (qX3_improveBy (t := 0) (by decide) hr hn10 hp1 hp) (by decide) rfl rfl (Nat.le_of_ble_eq_true rfl) dX4_improve_52 ?_
          refine rb_aload_n X (pc := 55) dX4_improve_55 rfl rfl ?_
          refine rc_getO (q := 0) X (pc := 56) fX4_10 rb_ob8 rfl dX4_improve_56 ?_
          refine rc_getR X (pc := 59) fX4_108 (rb_obT (t := 0) (by decide)) rfl dX4_improve_59 ?_
          refine rb_iload_n X (pc := 62) dX4_improve_62 rfl rfl ?_
          refine rc_iald X (pc := 63) _ (rb_arT9 (t := 0) (by decide)) (rb_tj9 (t := 0)) rfl (by omega) dX4_improve_63 ?_
          refine rb_iret (S := []) X (pc := 64) Y dX4_improve_64 ?_
          exact pc_T hC (by simp [r_improve, c5, cv, er, c36])
        · refine rb_aload_n X (pc := 39) dX4_improve_39 rfl rfl ?_
          refine rb_ldc X (pc := 40) dX4_improve_40 kX4_135 ?_
          refine rc_callVi X (pc := 42) cvX4_finding mX4_57 rb_ob8 (qX4_finding (i := 4) (by decide) (by decide)) (by decide) rfl rfl (Nat.le_of_ble_eq_true rfl) dX4_improve_42 ?_
          refine rb_iret (S := []) X (pc := 45) Y dX4_improve_45 ?_
          exact pc_f hC (by simp [r_improve, c5, cv, er, ff_4, show sT σ 9 r = -1 by simpa using c36])
      · refine rb_aload_n X (pc := 19) dX4_improve_19 rfl rfl ?_
        refine rb_ldc X (pc := 20) dX4_improve_20 kX4_56 ?_
        refine rc_callVi X (pc := 22) cvX4_finding mX4_57 rb_ob8 (qX4_finding (i := 0) (by decide) (by decide)) (by decide) rfl rfl (Nat.le_of_ble_eq_true rfl) dX4_improve_22 ?_
        refine rb_iret (S := []) X (pc := 25) Y dX4_improve_25 ?_
        exact pc_f hC (by rw [r_improve, if_neg, ff_0]; intro z; simp only [Bool.and_eq_true, iV, decide_eq_true_eq] at z; first | exact c5 z.1 | exact absurd z.2.1 (Int32.not_le.mpr c10) | exact c16 z.2.2)
set_option maxRecDepth 100000 in
set_option maxHeartbeats 1000000 in
theorem qX4_comesTrue {G : rb_G} {σ : Sg} {h : rb_H} (hS : okS σ) (hC : CI σ h)  (e : Int32) : rb_M G 2 yX4_comesTrue cX4_comesTrue 2 (some .int) [.ref (rb_ad G 8 0), .int e] (h) (PC h (r_comesTrue σ e)) := by
  refine rb_meth (L := [.ref (rb_ad G 8 0), .int e]) (by decide) (Nat.le_of_ble_eq_true rfl) rfl (fun Z X Y => ?_)
  have X : rb_CX Z G cX4_comesTrue 2 RX4 2 := X
  obtain ⟨h, rfl⟩ : ∃ h0, h = tw h0 0 (sT σ) := ⟨h, (rb_st_self hC.1).symm⟩
  have hok := hS.1
  have hn4 := hok.1
  have hn10 := hok.2.1
  refine rb_iload_n X (pc := 0) dX4_comesTrue_0 rfl rfl ?_
  refine rc_callSi X (pc := 1) cvX4_isEvent mX4_81 (qX4_isEvent _) (by decide) rfl rfl (Nat.le_of_ble_eq_true rfl) dX4_comesTrue_1 ?_
  refine rb_if_ne X (pc := 4) (tgt := 14) dX4_comesTrue_4 (by decide) (fun c4 => ?_) (fun c4 => ?_)
  · (try simp only [sp_b0, Classical.not_not] at c4)
    refine rb_aload_n X (pc := 14) dX4_comesTrue_14 rfl rfl ?_
    refine rc_getO (q := 0) X (pc := 15) fX4_10 rb_ob8 rfl dX4_comesTrue_15 ?_
    refine rb_iload_n X (pc := 18) dX4_comesTrue_18 rfl rfl ?_
    refine rc_callVi X (pc := 19) cvX3_becomeTrue mX4_146 (rb_obT (t := 0) (by decide)) (qX3_becomeTrue (t := 0) (by decide) hok _) (by decide) rfl rfl (Nat.le_of_ble_eq_true rfl) dX4_comesTrue_19 ?_
    refine rb_iret (S := []) X (pc := 22) Y dX4_comesTrue_22 ?_
    exact pc_T hC (by simp [r_comesTrue, c4])
  · (try simp only [sp_b0, Classical.not_not] at c4)
    refine rb_aload_n X (pc := 7) dX4_comesTrue_7 rfl rfl ?_
    refine rb_ldc X (pc := 8) dX4_comesTrue_8 kX4_56 ?_
    refine rc_callVi X (pc := 10) cvX4_finding mX4_57 rb_ob8 (qX4_finding (i := 0) (by decide) (by decide)) (by decide) rfl rfl (Nat.le_of_ble_eq_true rfl) dX4_comesTrue_10 ?_
    refine rb_iret (S := []) X (pc := 13) Y dX4_comesTrue_13 ?_
    first
    | exact pc_f hC (by simp [r_comesTrue, ff_0, *]; done)
    | exact pc_Af hC (by simp [r_comesTrue, ff_0, *]; done)
set_option maxRecDepth 100000 in
set_option maxHeartbeats 1000000 in
theorem qX4_forget {G : rb_G} {σ : Sg} {h : rb_H} (hS : okS σ) (hC : CI σ h)  (e : Int32) : rb_M G 1 yX4_forget cX4_forget 3 (some .int) [.ref (rb_ad G 8 0), .int e] (h) (PC h (r_forget σ e)) := by
  refine rb_meth (L := [.ref (rb_ad G 8 0), .int e, .null]) (by decide) (Nat.le_of_ble_eq_true rfl) rfl (fun Z X Y => ?_)
  have X : rb_CX Z G cX4_forget 3 RX4 1 := X
  obtain ⟨h, rfl⟩ : ∃ h0, h = tw h0 0 (sT σ) := ⟨h, (rb_st_self hC.1).symm⟩
  have hok := hS.1
  have hn4 := hok.1
  have hn10 := hok.2.1
  refine rb_iload_n X (pc := 0) dX4_forget_0 rfl rfl ?_
  refine rc_callSi X (pc := 1) cvX4_isEvent mX4_81 (qX4_isEvent _) (by decide) rfl rfl (Nat.le_of_ble_eq_true rfl) dX4_forget_1 ?_
  refine rb_if_ne X (pc := 4) (tgt := 14) dX4_forget_4 (by decide) (fun c4 => ?_) (fun c4 => ?_)
  · (try simp only [sp_b0, Classical.not_not] at c4)
    refine rb_aload_n X (pc := 14) dX4_forget_14 rfl rfl ?_
    refine rc_getO (q := 0) X (pc := 15) fX4_10 rb_ob8 rfl dX4_forget_15 ?_
    refine rb_iload_n X (pc := 18) dX4_forget_18 rfl rfl ?_
    refine rc_callVi X (pc := 19) cvX3_isTrue mX4_132 (rb_obT (t := 0) (by decide)) (qX3_isTrue (t := 0) (by decide) _) (by decide) rfl rfl (Nat.le_of_ble_eq_true rfl) dX4_forget_19 ?_
    refine rb_if_eq X (pc := 22) (tgt := 29) dX4_forget_22 (by decide) (fun c22 => ?_) (fun c22 => ?_)
    · (try simp only [sp_b0, Classical.not_not] at c22)
      refine rb_iconst (v := 0) X (pc := 29) dX4_forget_29 (by decide) ?_
      refine rb_istore_n X (pc := 30) dX4_forget_30 rfl (by decide) rfl rfl ?_
      refine rb_aload_n X (pc := 31) dX4_forget_31 rfl rfl ?_
      refine rc_getO (q := 0) X (pc := 32) fX4_10 rb_ob8 rfl dX4_forget_32 ?_
      refine rb_dup X (pc := 35) dX4_forget_35 rfl ?_
      refine rc_getI X (pc := 36) fX4_149 (rb_obT (t := 0) (by decide)) rfl (rb_tf11 (t := 0)) dX4_forget_36 ?_
      refine rb_iconst (v := 1) X (pc := 39) dX4_forget_39 (by decide) ?_
      refine rb_iload_n X (pc := 40) dX4_forget_40 rfl rfl ?_
      refine rb_ishl X (pc := 41) dX4_forget_41 ?_
      refine rb_iconst (v := (-1)) X (pc := 42) dX4_forget_42 (by decide) ?_
      refine rb_ixor X (pc := 43) dX4_forget_43 ?_
      refine rb_iand X (pc := 44) dX4_forget_44 ?_
      refine rc_put X (pc := 45) fX4_149 gX3_11 (rb_obT (t := 0) (by decide)) rfl rfl rfl (tw_u (by decide) (by decide) (by decide)) dX4_forget_45 ?_
      refine rb_iload_n X (pc := 48) dX4_forget_48 rfl rfl ?_
      refine rb_iret (S := []) X (pc := 49) Y dX4_forget_49 ?_
      exact pc_T hC (by simp only [r_forget, c4]; simp [c22])
    · (try simp only [sp_b0, Classical.not_not] at c22)
      refine rb_iconst (v := 1) X (pc := 25) dX4_forget_25 (by decide) ?_
      refine rb_goto X (pc := 26) (tgt := 30) dX4_forget_26 (by decide) ?_
      refine rb_istore_n X (pc := 30) dX4_forget_30 rfl (by decide) rfl rfl ?_
      refine rb_aload_n X (pc := 31) dX4_forget_31 rfl rfl ?_
      refine rc_getO (q := 0) X (pc := 32) fX4_10 rb_ob8 rfl dX4_forget_32 ?_
      refine rb_dup X (pc := 35) dX4_forget_35 rfl ?_
      refine rc_getI X (pc := 36) fX4_149 (rb_obT (t := 0) (by decide)) rfl (rb_tf11 (t := 0)) dX4_forget_36 ?_
      refine rb_iconst (v := 1) X (pc := 39) dX4_forget_39 (by decide) ?_
      refine rb_iload_n X (pc := 40) dX4_forget_40 rfl rfl ?_
      refine rb_ishl X (pc := 41) dX4_forget_41 ?_
      refine rb_iconst (v := (-1)) X (pc := 42) dX4_forget_42 (by decide) ?_
      refine rb_ixor X (pc := 43) dX4_forget_43 ?_
      refine rb_iand X (pc := 44) dX4_forget_44 ?_
      refine rc_put X (pc := 45) fX4_149 gX3_11 (rb_obT (t := 0) (by decide)) rfl rfl rfl (tw_u (by decide) (by decide) (by decide)) dX4_forget_45 ?_
      refine rb_iload_n X (pc := 48) dX4_forget_48 rfl rfl ?_
      refine rb_iret (S := []) X (pc := 49) Y dX4_forget_49 ?_
      exact pc_T hC (by simp only [r_forget, c4]; simp [c22])
  · (try simp only [sp_b0, Classical.not_not] at c4)
    refine rb_aload_n X (pc := 7) dX4_forget_7 rfl rfl ?_
    refine rb_ldc X (pc := 8) dX4_forget_8 kX4_56 ?_
    refine rc_callVi X (pc := 10) cvX4_finding mX4_57 rb_ob8 (qX4_finding (i := 0) (by decide) (by decide)) (by decide) rfl rfl (Nat.le_of_ble_eq_true rfl) dX4_forget_10 ?_
    refine rb_iret (S := []) X (pc := 13) Y dX4_forget_13 ?_
    first
    | exact pc_f hC (by simp [r_forget, ff_0, *]; done)
    | exact pc_Af hC (by simp [r_forget, ff_0, *]; done)
set_option maxRecDepth 100000 in
set_option maxHeartbeats 1000000 in
theorem qX4_days {G : rb_G} {σ : Sg} {h : rb_H} (hS : okS σ) (hC : CI σ h)  (n0 : Int32) : rb_M G 6 yX4_days cX4_days 2 (some .int) [.ref (rb_ad G 8 0), .int n0] (h) (PC h (r_days σ n0)) := by
  refine rb_meth (L := [.ref (rb_ad G 8 0), .int n0]) (by decide) (Nat.le_of_ble_eq_true rfl) rfl (fun Z X Y => ?_)
  have X : rb_CX Z G cX4_days 2 RX4 6 := X
  obtain ⟨h, rfl⟩ : ∃ h0, h = tw h0 0 (sT σ) := ⟨h, (rb_st_self hC.1).symm⟩
  have hok := hS.1
  have hn4 := hok.1
  have hn10 := hok.2.1
  refine rb_iload_n X (pc := 0) dX4_days_0 rfl rfl ?_
  refine rb_iconst (v := 1) X (pc := 1) dX4_days_1 (by decide) ?_
  refine rb_icmp_lt X (pc := 2) (tgt := 11) dX4_days_2 (by decide) (fun c2 => ?_) (fun c2 => ?_)
  · refine rb_aload_n X (pc := 11) dX4_days_11 rfl rfl ?_
    refine rb_ldc X (pc := 12) dX4_days_12 kX4_56 ?_
    refine rc_callVi X (pc := 14) cvX4_finding mX4_57 rb_ob8 (qX4_finding (i := 0) (by decide) (by decide)) (by decide) rfl rfl (Nat.le_of_ble_eq_true rfl) dX4_days_14 ?_
    refine rb_iret (S := []) X (pc := 17) Y dX4_days_17 ?_
    exact pc_f hC (by rw [r_days, if_neg, ff_0]; intro z; simp only [iV, decide_eq_true_eq] at z; first | exact absurd z.1 (Int32.not_le.mpr c2) | exact c8 z.2)
  · refine rb_iload_n X (pc := 5) dX4_days_5 rfl rfl ?_
    refine rb_bipush (v := 60) X (pc := 6) dX4_days_6 (by decide) ?_
    refine rb_icmp_le X (pc := 8) (tgt := 18) dX4_days_8 (by decide) (fun c8 => ?_) (fun c8 => ?_)
    · have cv : iV n0 60 = true := by simp [iV, Int32.not_lt.mp c2, c8]
      obtain ⟨n, hn1, hn2, rfl⟩ := iV_of (n := 60) (by decide) cv
      have en : ix (nI n) = n := nI_clamp (by omega)
      refine rb_aload_n X (pc := 18) dX4_days_18 rfl rfl ?_
      refine rc_getO (q := 0) X (pc := 19) fX4_10 rb_ob8 rfl dX4_days_19 ?_
      refine rc_getI X (pc := 22) fX4_153 (rb_obT (t := 0) (by decide)) rfl (rb_tf10 (t := 0)) dX4_days_22 ?_
      refine rb_iload_n X (pc := 25) dX4_days_25 rfl rfl ?_
      refine rb_iadd X (pc := 26) dX4_days_26 ?_
      refine rb_sipush (v := 9999) X (pc := 27) dX4_days_27 (by decide) ?_
      refine rb_icmp_le X (pc := 30) (tgt := 40) dX4_days_30 (by decide) (fun c30 => ?_) (fun c30 => ?_)
      · have c30 := Int32.not_lt.mpr c30
        refine rb_aload_n X (pc := 40) dX4_days_40 rfl rfl ?_
        refine rc_getO (q := 0) X (pc := 41) fX4_10 rb_ob8 rfl dX4_days_41 ?_
        refine rb_iload_n X (pc := 44) dX4_days_44 rfl rfl ?_
        refine rc_callVv X (pc := 45) cvX3_passDays mX4_156 (rb_obT (t := 0) (by decide)) (qX3_passDays (t := 0) (by decide) hok (by omega)) (by decide) rfl rfl (Nat.le_of_ble_eq_true rfl) dX4_days_45 ?_
        refine rb_aload_n X (pc := 48) dX4_days_48 rfl rfl ?_
        refine rc_getO (q := 0) X (pc := 49) fX4_10 rb_ob8 rfl dX4_days_49 ?_
        refine rc_getI X (pc := 52) fX4_160 (rb_obT (t := 0) (by decide)) rfl (rb_tf4 (t := 0)) dX4_days_52 ?_
        refine rb_iret (S := []) X (pc := 55) Y dX4_days_55 ?_
        exact pc_T hC (by simp [r_days, cv, c30, en])
      · have c30 := Int32.not_le.mp c30
        refine rb_aload_n X (pc := 33) dX4_days_33 rfl rfl ?_
        refine rb_ldc X (pc := 34) dX4_days_34 kX4_135 ?_
        refine rc_callVi X (pc := 36) cvX4_finding mX4_57 rb_ob8 (qX4_finding (i := 4) (by decide) (by decide)) (by decide) rfl rfl (Nat.le_of_ble_eq_true rfl) dX4_days_36 ?_
        refine rb_iret (S := []) X (pc := 39) Y dX4_days_39 ?_
        exact pc_f hC (by simp [r_days, cv, c30, ff_4])
    · refine rb_aload_n X (pc := 11) dX4_days_11 rfl rfl ?_
      refine rb_ldc X (pc := 12) dX4_days_12 kX4_56 ?_
      refine rc_callVi X (pc := 14) cvX4_finding mX4_57 rb_ob8 (qX4_finding (i := 0) (by decide) (by decide)) (by decide) rfl rfl (Nat.le_of_ble_eq_true rfl) dX4_days_14 ?_
      refine rb_iret (S := []) X (pc := 17) Y dX4_days_17 ?_
      exact pc_f hC (by rw [r_days, if_neg, ff_0]; intro z; simp only [iV, decide_eq_true_eq] at z; first | exact absurd z.1 (Int32.not_le.mpr c2) | exact c8 z.2)
set_option maxRecDepth 100000 in
set_option maxHeartbeats 1000000 in
theorem qX4_now {G : rb_G} {σ : Sg} {h : rb_H} (hS : okS σ) (hC : CI σ h)  (w : Int32) : rb_M G 5 yX4_now cX4_now 2 (some .int) [.ref (rb_ad G 8 0), .int w] (h) (PC h (r_now σ w)) := by
  refine rb_meth (L := [.ref (rb_ad G 8 0), .int w]) (by decide) (Nat.le_of_ble_eq_true rfl) rfl (fun Z X Y => ?_)
  have X : rb_CX Z G cX4_now 2 RX4 5 := X
  obtain ⟨h, rfl⟩ : ∃ h0, h = tw h0 0 (sT σ) := ⟨h, (rb_st_self hC.1).symm⟩
  have hok := hS.1
  have hn4 := hok.1
  have hn10 := hok.2.1
  refine rb_iload_n X (pc := 0) dX4_now_0 rfl rfl ?_
  refine rc_tabC X (pc := 1) (v := 0) (i := 0) (tgt := 44) dX4_now_1 (by decide) (by decide) rfl (by decide) (fun c1 => ?_) (fun n1_0 => ?_)
  · refine rb_aload_n X (pc := 44) dX4_now_44 rfl rfl ?_
    refine rc_getO (q := 0) X (pc := 45) fX4_10 rb_ob8 rfl dX4_now_45 ?_
    refine rc_getI X (pc := 48) fX4_153 (rb_obT (t := 0) (by decide)) rfl (rb_tf10 (t := 0)) dX4_now_48 ?_
    refine rb_iret (S := []) X (pc := 51) Y dX4_now_51 ?_
    exact pc_0 hC (by simp [r_now, *])
  refine rc_tabC X (pc := 1) (v := 1) (i := 1) (tgt := 52) dX4_now_1 (by decide) (by decide) rfl (by decide) (fun c1 => ?_) (fun n1_1 => ?_)
  · refine rb_aload_n X (pc := 52) dX4_now_52 rfl rfl ?_
    refine rc_getO (q := 0) X (pc := 53) fX4_10 rb_ob8 rfl dX4_now_53 ?_
    refine rc_getI X (pc := 56) fX4_149 (rb_obT (t := 0) (by decide)) rfl (rb_tf11 (t := 0)) dX4_now_56 ?_
    refine rb_iret (S := []) X (pc := 59) Y dX4_now_59 ?_
    exact pc_0 hC (by simp [r_now, *])
  refine rc_tabC X (pc := 1) (v := 2) (i := 2) (tgt := 60) dX4_now_1 (by decide) (by decide) rfl (by decide) (fun c1 => ?_) (fun n1_2 => ?_)
  · refine rb_aload_n X (pc := 60) dX4_now_60 rfl rfl ?_
    refine rc_getO (q := 0) X (pc := 61) fX4_10 rb_ob8 rfl dX4_now_61 ?_
    refine rb_iconst (v := (-1)) X (pc := 64) dX4_now_64 (by decide) ?_
    refine rc_callVi X (pc := 65) cvX3_thoseIn mX4_69 (rb_obT (t := 0) (by decide)) (qX3_thoseIn (t := 0) (by decide) hn4 hn10 _) (by decide) rfl rfl (Nat.le_of_ble_eq_true rfl) dX4_now_65 ?_
    refine rb_iret (S := []) X (pc := 68) Y dX4_now_68 ?_
    exact pc_0 hC (by simp [r_now, *])
  refine rc_tabC X (pc := 1) (v := 3) (i := 3) (tgt := 69) dX4_now_1 (by decide) (by decide) rfl (by decide) (fun c1 => ?_) (fun n1_3 => ?_)
  · refine rb_aload_n X (pc := 69) dX4_now_69 rfl rfl ?_
    refine rc_getO (q := 0) X (pc := 70) fX4_10 rb_ob8 rfl dX4_now_70 ?_
    refine rc_callVi X (pc := 73) cvX3_bulkOfAll mX4_163 (rb_obT (t := 0) (by decide)) (qX3_bulkOfAll (t := 0) (by decide) hn4 hn10) (by decide) rfl rfl (Nat.le_of_ble_eq_true rfl) dX4_now_73 ?_
    refine rb_iret (S := []) X (pc := 76) Y dX4_now_76 ?_
    exact pc_0 hC (by simp [r_now, *])
  refine rc_tabC X (pc := 1) (v := 4) (i := 4) (tgt := 77) dX4_now_1 (by decide) (by decide) rfl (by decide) (fun c1 => ?_) (fun n1_4 => ?_)
  · refine rb_aload_n X (pc := 77) dX4_now_77 rfl rfl ?_
    refine rc_getO (q := 0) X (pc := 78) fX4_10 rb_ob8 rfl dX4_now_78 ?_
    refine rc_getR X (pc := 81) fX4_63 (rb_obT (t := 0) (by decide)) rfl dX4_now_81 ?_
    refine rc_callSi X (pc := 84) cvX4_sumOf mX4_167 (qX4_sumOf (rb_arT1 (t := 0) (by decide)) (rb_tj1 (t := 0)) (by decide)) (by decide) rfl rfl (Nat.le_of_ble_eq_true rfl) dX4_now_84 ?_
    refine rb_iret (S := []) X (pc := 87) Y dX4_now_87 ?_
    exact pc_0 hC (by simp [r_now, *])
  refine rc_tabC X (pc := 1) (v := 5) (i := 5) (tgt := 88) dX4_now_1 (by decide) (by decide) rfl (by decide) (fun c1 => ?_) (fun n1_5 => ?_)
  · refine rb_aload_n X (pc := 88) dX4_now_88 rfl rfl ?_
    refine rc_getO (q := 0) X (pc := 89) fX4_10 rb_ob8 rfl dX4_now_89 ?_
    refine rc_callVi X (pc := 92) cvX3_freeBeds mX4_171 (rb_obT (t := 0) (by decide)) (qX3_freeBeds (t := 0) (by decide)) (by decide) rfl rfl (Nat.le_of_ble_eq_true rfl) dX4_now_92 ?_
    refine rb_iret (S := []) X (pc := 95) Y dX4_now_95 ?_
    exact pc_0 hC (by simp [r_now, *])
  refine rc_tabC X (pc := 1) (v := 6) (i := 6) (tgt := 96) dX4_now_1 (by decide) (by decide) rfl (by decide) (fun c1 => ?_) (fun n1_6 => ?_)
  · refine rb_aload_n X (pc := 96) dX4_now_96 rfl rfl ?_
    refine rc_getO (q := 0) X (pc := 97) fX4_10 rb_ob8 rfl dX4_now_97 ?_
    refine rc_callVi X (pc := 100) cvX3_eatenInAll mX4_174 (rb_obT (t := 0) (by decide)) (qX3_eatenInAll (t := 0) (by decide) hn4 hn10) (by decide) rfl rfl (Nat.le_of_ble_eq_true rfl) dX4_now_100 ?_
    refine rb_iret (S := []) X (pc := 103) Y dX4_now_103 ?_
    exact pc_0 hC (by simp [r_now, *])
  refine rb_tabOut X (pc := 1) (tgt := 104) dX4_now_1 (by have z0 := lv_neT n1_0 (a := 0) rfl; have z1 := lv_neT n1_1 (a := 1) rfl; have z2 := lv_neT n1_2 (a := 2) rfl; have z3 := lv_neT n1_3 (a := 3) rfl; have z4 := lv_neT n1_4 (a := 4) rfl; have z5 := lv_neT n1_5 (a := 5) rfl; have z6 := lv_neT n1_6 (a := 6) rfl; omega) (by decide) ?_
  refine rb_aload_n X (pc := 104) dX4_now_104 rfl rfl ?_
  refine rb_ldc X (pc := 105) dX4_now_105 kX4_56 ?_
  refine rc_callVi X (pc := 107) cvX4_finding mX4_57 rb_ob8 (qX4_finding (i := 0) (by decide) (by decide)) (by decide) rfl rfl (Nat.le_of_ble_eq_true rfl) dX4_now_107 ?_
  refine rb_iret (S := []) X (pc := 110) Y dX4_now_110 ?_
  first
  | exact pc_f hC (by simp [r_now, ff_0, *]; done)
  | exact pc_Af hC (by simp [r_now, ff_0, *]; done)
set_option maxRecDepth 100000 in
set_option maxHeartbeats 1000000 in
theorem qX4_on {G : rb_G} {σ : Sg} {h : rb_H} (hS : okS σ) (hC : CI σ h)  (r0 n0 w : Int32) : rb_M G 6 yX4_on cX4_on 4 (some .int) [.ref (rb_ad G 8 0), .int r0, .int n0, .int w] (h) (PC h (r_on σ r0 n0 w)) := by
  refine rb_meth (L := [.ref (rb_ad G 8 0), .int r0, .int n0, .int w]) (by decide) (Nat.le_of_ble_eq_true rfl) rfl (fun Z X Y => ?_)
  have X : rb_CX Z G cX4_on 4 RX4 6 := X
  obtain ⟨h, rfl⟩ : ∃ h0, h = tw h0 0 (sT σ) := ⟨h, (rb_st_self hC.1).symm⟩
  have hok := hS.1
  have hn4 := hok.1
  have hn10 := hok.2.1
  refine rb_aload_n X (pc := 0) dX4_on_0 rfl rfl ?_
  refine rb_iload_n X (pc := 1) dX4_on_1 rfl rfl ?_
  refine rc_callVi X (pc := 2) cvX4_isRumour mX4_93 rb_ob8 (qX4_isRumour _) (by decide) rfl rfl (Nat.le_of_ble_eq_true rfl) dX4_on_2 ?_
  refine rb_if_eq X (pc := 5) (tgt := 25) dX4_on_5 (by decide) (fun c5 => ?_) (fun c5 => ?_)
  · (try simp only [sp_b0, Classical.not_not] at c5)
    refine rb_aload_n X (pc := 25) dX4_on_25 rfl rfl ?_
    refine rb_ldc X (pc := 26) dX4_on_26 kX4_56 ?_
    refine rc_callVi X (pc := 28) cvX4_finding mX4_57 rb_ob8 (qX4_finding (i := 0) (by decide) (by decide)) (by decide) rfl rfl (Nat.le_of_ble_eq_true rfl) dX4_on_28 ?_
    refine rb_iret (S := []) X (pc := 31) Y dX4_on_31 ?_
    first
    | exact pc_f hC (by simp [r_on, ff_0, *]; done)
    | exact pc_Af hC (by simp [r_on, ff_0, *]; done)
  · (try simp only [sp_b0, Classical.not_not] at c5)
    refine rb_iload_n X (pc := 8) dX4_on_8 rfl rfl ?_
    refine rb_bipush (v := 60) X (pc := 9) dX4_on_9 (by decide) ?_
    refine rc_callSi X (pc := 11) cvX4_isWithin mX4_52 (qX4_isWithin _ _) (by decide) rfl rfl (Nat.le_of_ble_eq_true rfl) dX4_on_11 ?_
    refine rb_if_eq X (pc := 14) (tgt := 25) dX4_on_14 (by decide) (fun c14 => ?_) (fun c14 => ?_)
    · (try simp only [sp_b0, Classical.not_not] at c14)
      refine rb_aload_n X (pc := 25) dX4_on_25 rfl rfl ?_
      refine rb_ldc X (pc := 26) dX4_on_26 kX4_56 ?_
      refine rc_callVi X (pc := 28) cvX4_finding mX4_57 rb_ob8 (qX4_finding (i := 0) (by decide) (by decide)) (by decide) rfl rfl (Nat.le_of_ble_eq_true rfl) dX4_on_28 ?_
      refine rb_iret (S := []) X (pc := 31) Y dX4_on_31 ?_
      first
      | exact pc_f hC (by simp [r_on, ff_0, *]; done)
      | exact pc_Af hC (by simp [r_on, ff_0, *]; done)
    · (try simp only [sp_b0, Classical.not_not] at c14)
      refine rb_iload_n X (pc := 17) dX4_on_17 rfl rfl ?_
      refine rb_iconst (v := 1) X (pc := 18) dX4_on_18 (by decide) ?_
      refine rc_callSi X (pc := 19) cvX4_isWithin mX4_52 (qX4_isWithin _ _) (by decide) rfl rfl (Nat.le_of_ble_eq_true rfl) dX4_on_19 ?_
      refine rb_if_ne X (pc := 22) (tgt := 32) dX4_on_22 (by decide) (fun c22 => ?_) (fun c22 => ?_)
      · (try simp only [sp_b0, Classical.not_not] at c22)
        obtain ⟨r, hr, rfl⟩ := iR_of hok c5
        obtain ⟨n, hn1, rfl⟩ := iN_of (n := 60) (by decide) c14
        have er : ix (nI r) = r := nI_clamp (by omega)
        have en : ix (nI n) = n := nI_clamp (by omega)
        refine rb_aload_n X (pc := 32) dX4_on_32 rfl rfl ?_
        refine rc_getO (q := 1) X (pc := 33) fX4_16 rb_ob8 rfl dX4_on_33 ?_
        refine rb_aload_n X (pc := 36) dX4_on_36 rfl rfl ?_
        refine rc_getO (q := 0) X (pc := 37) fX4_10 rb_ob8 rfl dX4_on_37 ?_
        refine rc_callVv X (pc := 40) cvX3_becomes mX4_177 (rb_obT (t := 1) (by decide)) (qX3_becomes (t := 1) (t2 := 0) (by decide) (by decide) (by decide) (M2 := wl (sT σ)) rfl) (by decide) rfl rfl (Nat.le_of_ble_eq_true rfl) dX4_on_40 ?_
        refine rb_aload_n X (pc := 43) dX4_on_43 rfl rfl ?_
        refine rc_getO (q := 1) X (pc := 44) fX4_16 rb_ob8 rfl dX4_on_44 ?_
        refine rb_iload_n X (pc := 47) dX4_on_47 rfl rfl ?_
        refine rc_callVv X (pc := 48) cvX3_passDays mX4_156 (rb_obT (t := 1) (by decide)) (qX3_passDays (t := 1) (by decide) (T := sT σ) hok (by omega)) (by decide) rfl rfl (Nat.le_of_ble_eq_true rfl) dX4_on_48 ?_
        refine rb_iload_n X (pc := 51) dX4_on_51 rfl rfl ?_
        refine rb_if_ne X (pc := 52) (tgt := 67) dX4_on_52 (by decide) (fun c52 => ?_) (fun c52 => ?_)
        · refine rb_aload_n X (pc := 67) dX4_on_67 rfl rfl ?_
          refine rc_getO (q := 1) X (pc := 68) fX4_16 rb_ob8 rfl dX4_on_68 ?_
          refine rc_getR X (pc := 71) fX4_102 (rb_obT (t := 1) (by decide)) rfl dX4_on_71 ?_
          refine rb_iload_n X (pc := 74) dX4_on_74 rfl rfl ?_
          refine rc_iald X (pc := 75) _ (rb_arT7 (t := 1) (by decide)) (rb_tj7 (t := 1)) rfl (by omega) dX4_on_75 ?_
          refine rb_iret (S := []) X (pc := 76) Y dX4_on_76 ?_
          exact pc_A hC (by simp only [r_on, c5, c14, c22, er, en]; simp [c52])
        · refine rb_aload_n X (pc := 55) dX4_on_55 rfl rfl ?_
          refine rc_getO (q := 1) X (pc := 56) fX4_16 rb_ob8 rfl dX4_on_56 ?_
          refine rc_getR X (pc := 59) fX4_108 (rb_obT (t := 1) (by decide)) rfl dX4_on_59 ?_
          refine rb_iload_n X (pc := 62) dX4_on_62 rfl rfl ?_
          refine rc_iald X (pc := 63) _ (rb_arT9 (t := 1) (by decide)) (rb_tj9 (t := 1)) rfl (by omega) dX4_on_63 ?_
          refine rb_goto X (pc := 64) (tgt := 76) dX4_on_64 (by decide) ?_
          refine rb_iret (S := []) X (pc := 76) Y dX4_on_76 ?_
          exact pc_A hC (by simp only [r_on, c5, c14, c22, er, en]; simp [c52])
      · (try simp only [sp_b0, Classical.not_not] at c22)
        refine rb_aload_n X (pc := 25) dX4_on_25 rfl rfl ?_
        refine rb_ldc X (pc := 26) dX4_on_26 kX4_56 ?_
        refine rc_callVi X (pc := 28) cvX4_finding mX4_57 rb_ob8 (qX4_finding (i := 0) (by decide) (by decide)) (by decide) rfl rfl (Nat.le_of_ble_eq_true rfl) dX4_on_28 ?_
        refine rb_iret (S := []) X (pc := 31) Y dX4_on_31 ?_
        first
        | exact pc_f hC (by simp [r_on, ff_0, *]; done)
        | exact pc_Af hC (by simp [r_on, ff_0, *]; done)
set_option maxRecDepth 100000 in
set_option maxHeartbeats 1000000 in
theorem qX4_larder {G : rb_G} {σ : Sg} {h : rb_H} (hS : okS σ) (hC : CI σ h)  (a n0 : Int32) : rb_M G 6 yX4_larder cX4_larder 3 (some .int) [.ref (rb_ad G 8 0), .int a, .int n0] (h) (PC h (r_larder σ a n0)) := by
  refine rb_meth (L := [.ref (rb_ad G 8 0), .int a, .int n0]) (by decide) (Nat.le_of_ble_eq_true rfl) rfl (fun Z X Y => ?_)
  have X : rb_CX Z G cX4_larder 3 RX4 6 := X
  obtain ⟨h, rfl⟩ : ∃ h0, h = tw h0 0 (sT σ) := ⟨h, (rb_st_self hC.1).symm⟩
  have hok := hS.1
  have hn4 := hok.1
  have hn10 := hok.2.1
  refine rb_iload_n X (pc := 0) dX4_larder_0 rfl rfl ?_
  refine rc_callSi X (pc := 1) cvX4_isHouse mX4_44 (qX4_isHouse _) (by decide) rfl rfl (Nat.le_of_ble_eq_true rfl) dX4_larder_1 ?_
  refine rb_if_eq X (pc := 4) (tgt := 16) dX4_larder_4 (by decide) (fun c4 => ?_) (fun c4 => ?_)
  · (try simp only [sp_b0, Classical.not_not] at c4)
    refine rb_aload_n X (pc := 16) dX4_larder_16 rfl rfl ?_
    refine rb_ldc X (pc := 17) dX4_larder_17 kX4_56 ?_
    refine rc_callVi X (pc := 19) cvX4_finding mX4_57 rb_ob8 (qX4_finding (i := 0) (by decide) (by decide)) (by decide) rfl rfl (Nat.le_of_ble_eq_true rfl) dX4_larder_19 ?_
    refine rb_iret (S := []) X (pc := 22) Y dX4_larder_22 ?_
    first
    | exact pc_f hC (by simp [r_larder, ff_0, *]; done)
    | exact pc_Af hC (by simp [r_larder, ff_0, *]; done)
  · (try simp only [sp_b0, Classical.not_not] at c4)
    refine rb_iload_n X (pc := 7) dX4_larder_7 rfl rfl ?_
    refine rb_bipush (v := 60) X (pc := 8) dX4_larder_8 (by decide) ?_
    refine rc_callSi X (pc := 10) cvX4_isWithin mX4_52 (qX4_isWithin _ _) (by decide) rfl rfl (Nat.le_of_ble_eq_true rfl) dX4_larder_10 ?_
    refine rb_if_ne X (pc := 13) (tgt := 23) dX4_larder_13 (by decide) (fun c13 => ?_) (fun c13 => ?_)
    · (try simp only [sp_b0, Classical.not_not] at c13)
      obtain ⟨q, hq, rfl⟩ := iH_of c4
      obtain ⟨n, hn1, rfl⟩ := iN_of (n := 60) (by decide) c13
      have eq1 : ix (nI q) = q := nI_clamp (by omega)
      have en : ix (nI n) = n := nI_clamp (by omega)
      refine rb_aload_n X (pc := 23) dX4_larder_23 rfl rfl ?_
      refine rc_getO (q := 1) X (pc := 24) fX4_16 rb_ob8 rfl dX4_larder_24 ?_
      refine rb_aload_n X (pc := 27) dX4_larder_27 rfl rfl ?_
      refine rc_getO (q := 0) X (pc := 28) fX4_10 rb_ob8 rfl dX4_larder_28 ?_
      refine rc_callVv X (pc := 31) cvX3_becomes mX4_177 (rb_obT (t := 1) (by decide)) (qX3_becomes (t := 1) (t2 := 0) (by decide) (by decide) (by decide) (M2 := wl (sT σ)) rfl) (by decide) rfl rfl (Nat.le_of_ble_eq_true rfl) dX4_larder_31 ?_
      refine rb_aload_n X (pc := 34) dX4_larder_34 rfl rfl ?_
      refine rc_getO (q := 1) X (pc := 35) fX4_16 rb_ob8 rfl dX4_larder_35 ?_
      refine rb_iload_n X (pc := 38) dX4_larder_38 rfl rfl ?_
      refine rc_callVv X (pc := 39) cvX3_passDays mX4_156 (rb_obT (t := 1) (by decide)) (qX3_passDays (t := 1) (by decide) (T := sT σ) hok (by omega)) (by decide) rfl rfl (Nat.le_of_ble_eq_true rfl) dX4_larder_39 ?_
      refine rb_aload_n X (pc := 42) dX4_larder_42 rfl rfl ?_
      refine rc_getO (q := 1) X (pc := 43) fX4_16 rb_ob8 rfl dX4_larder_43 ?_
      refine rc_getR X (pc := 46) fX4_63 (rb_obT (t := 1) (by decide)) rfl dX4_larder_46 ?_
      refine rb_iload_n X (pc := 49) dX4_larder_49 rfl rfl ?_
      refine rc_iald X (pc := 50) _ (rb_arT1 (t := 1) (by decide)) (rb_tj1 (t := 1)) rfl (by omega) dX4_larder_50 ?_
      refine rb_iret (S := []) X (pc := 51) Y dX4_larder_51 ?_
      exact pc_A hC (by simp [r_larder, c4, c13, eq1, en])
    · (try simp only [sp_b0, Classical.not_not] at c13)
      refine rb_aload_n X (pc := 16) dX4_larder_16 rfl rfl ?_
      refine rb_ldc X (pc := 17) dX4_larder_17 kX4_56 ?_
      refine rc_callVi X (pc := 19) cvX4_finding mX4_57 rb_ob8 (qX4_finding (i := 0) (by decide) (by decide)) (by decide) rfl rfl (Nat.le_of_ble_eq_true rfl) dX4_larder_19 ?_
      refine rb_iret (S := []) X (pc := 22) Y dX4_larder_22 ?_
      first
      | exact pc_f hC (by simp [r_larder, ff_0, *]; done)
      | exact pc_Af hC (by simp [r_larder, ff_0, *]; done)
set_option maxRecDepth 100000 in
set_option maxHeartbeats 1000000 in
theorem qX4_many {G : rb_G} {σ : Sg} {h : rb_H} (hS : okS σ) (hC : CI σ h)  (n0 : Int32) : rb_M G 6 yX4_many cX4_many 2 (some .int) [.ref (rb_ad G 8 0), .int n0] (h) (PC h (r_many σ n0)) := by
  refine rb_meth (L := [.ref (rb_ad G 8 0), .int n0]) (by decide) (Nat.le_of_ble_eq_true rfl) rfl (fun Z X Y => ?_)
  have X : rb_CX Z G cX4_many 2 RX4 6 := X
  obtain ⟨h, rfl⟩ : ∃ h0, h = tw h0 0 (sT σ) := ⟨h, (rb_st_self hC.1).symm⟩
  have hok := hS.1
  have hn4 := hok.1
  have hn10 := hok.2.1
  refine rb_iload_n X (pc := 0) dX4_many_0 rfl rfl ?_
  refine rb_bipush (v := 60) X (pc := 1) dX4_many_1 (by decide) ?_
  refine rc_callSi X (pc := 3) cvX4_isWithin mX4_52 (qX4_isWithin _ _) (by decide) rfl rfl (Nat.le_of_ble_eq_true rfl) dX4_many_3 ?_
  refine rb_if_ne X (pc := 6) (tgt := 16) dX4_many_6 (by decide) (fun c6 => ?_) (fun c6 => ?_)
  · (try simp only [sp_b0, Classical.not_not] at c6)
    obtain ⟨n, hn1, rfl⟩ := iN_of (n := 60) (by decide) c6
    have en : ix (nI n) = n := nI_clamp (by omega)
    refine rb_aload_n X (pc := 16) dX4_many_16 rfl rfl ?_
    refine rc_getO (q := 1) X (pc := 17) fX4_16 rb_ob8 rfl dX4_many_17 ?_
    refine rb_aload_n X (pc := 20) dX4_many_20 rfl rfl ?_
    refine rc_getO (q := 0) X (pc := 21) fX4_10 rb_ob8 rfl dX4_many_21 ?_
    refine rc_callVv X (pc := 24) cvX3_becomes mX4_177 (rb_obT (t := 1) (by decide)) (qX3_becomes (t := 1) (t2 := 0) (by decide) (by decide) (by decide) (M2 := wl (sT σ)) rfl) (by decide) rfl rfl (Nat.le_of_ble_eq_true rfl) dX4_many_24 ?_
    refine rb_aload_n X (pc := 27) dX4_many_27 rfl rfl ?_
    refine rc_getO (q := 1) X (pc := 28) fX4_16 rb_ob8 rfl dX4_many_28 ?_
    refine rb_iload_n X (pc := 31) dX4_many_31 rfl rfl ?_
    refine rc_callVv X (pc := 32) cvX3_passDays mX4_156 (rb_obT (t := 1) (by decide)) (qX3_passDays (t := 1) (by decide) (T := sT σ) hok (by omega)) (by decide) rfl rfl (Nat.le_of_ble_eq_true rfl) dX4_many_32 ?_
    refine rb_aload_n X (pc := 35) dX4_many_35 rfl rfl ?_
    refine rc_getO (q := 1) X (pc := 36) fX4_16 rb_ob8 rfl dX4_many_36 ?_
    refine rc_getI X (pc := 39) fX4_160 (rb_obT (t := 1) (by decide)) rfl (rb_tf4 (t := 1)) dX4_many_39 ?_
    refine rb_iret (S := []) X (pc := 42) Y dX4_many_42 ?_
    exact pc_A hC (by simp [r_many, c6, en])
  · (try simp only [sp_b0, Classical.not_not] at c6)
    refine rb_aload_n X (pc := 9) dX4_many_9 rfl rfl ?_
    refine rb_ldc X (pc := 10) dX4_many_10 kX4_56 ?_
    refine rc_callVi X (pc := 12) cvX4_finding mX4_57 rb_ob8 (qX4_finding (i := 0) (by decide) (by decide)) (by decide) rfl rfl (Nat.le_of_ble_eq_true rfl) dX4_many_12 ?_
    refine rb_iret (S := []) X (pc := 15) Y dX4_many_15 ?_
    first
    | exact pc_f hC (by simp [r_many, ff_0, *]; done)
    | exact pc_Af hC (by simp [r_many, ff_0, *]; done)
set_option maxRecDepth 100000 in
set_option maxHeartbeats 1000000 in
theorem qX4_lean {G : rb_G} {σ : Sg} {h : rb_H} (hS : okS σ) (hC : CI σ h)  (a r0 : Int32) : rb_M G 2 yX4_lean cX4_lean 3 (some .int) [.ref (rb_ad G 8 0), .int a, .int r0] (h) (PC h (r_lean σ a r0)) := by
  refine rb_meth (L := [.ref (rb_ad G 8 0), .int a, .int r0]) (by decide) (Nat.le_of_ble_eq_true rfl) rfl (fun Z X Y => ?_)
  have X : rb_CX Z G cX4_lean 3 RX4 2 := X
  obtain ⟨h, rfl⟩ : ∃ h0, h = tw h0 0 (sT σ) := ⟨h, (rb_st_self hC.1).symm⟩
  have hok := hS.1
  have hn4 := hok.1
  have hn10 := hok.2.1
  refine rb_iload_n X (pc := 0) dX4_lean_0 rfl rfl ?_
  refine rc_callSi X (pc := 1) cvX4_isHouse mX4_44 (qX4_isHouse _) (by decide) rfl rfl (Nat.le_of_ble_eq_true rfl) dX4_lean_1 ?_
  refine rb_if_eq X (pc := 4) (tgt := 15) dX4_lean_4 (by decide) (fun c4 => ?_) (fun c4 => ?_)
  · (try simp only [sp_b0, Classical.not_not] at c4)
    refine rb_aload_n X (pc := 15) dX4_lean_15 rfl rfl ?_
    refine rb_ldc X (pc := 16) dX4_lean_16 kX4_56 ?_
    refine rc_callVi X (pc := 18) cvX4_finding mX4_57 rb_ob8 (qX4_finding (i := 0) (by decide) (by decide)) (by decide) rfl rfl (Nat.le_of_ble_eq_true rfl) dX4_lean_18 ?_
    refine rb_iret (S := []) X (pc := 21) Y dX4_lean_21 ?_
    first
    | exact pc_f hC (by simp [r_lean, ff_0, *]; done)
    | exact pc_Af hC (by simp [r_lean, ff_0, *]; done)
  · (try simp only [sp_b0, Classical.not_not] at c4)
    refine rb_aload_n X (pc := 7) dX4_lean_7 rfl rfl ?_
    refine rb_iload_n X (pc := 8) dX4_lean_8 rfl rfl ?_
    refine rc_callVi X (pc := 9) cvX4_isRumour mX4_93 rb_ob8 (qX4_isRumour _) (by decide) rfl rfl (Nat.le_of_ble_eq_true rfl) dX4_lean_9 ?_
    refine rb_if_ne X (pc := 12) (tgt := 22) dX4_lean_12 (by decide) (fun c12 => ?_) (fun c12 => ?_)
    · (try simp only [sp_b0, Classical.not_not] at c12)
      obtain ⟨q, hq, rfl⟩ := iH_of c4
      obtain ⟨r, hr, rfl⟩ := iR_of hok c12
      have er : ix (nI r) = r := nI_clamp (by omega)
      have eq1 : ix (nI q) = q := nI_clamp (by omega)
      refine rb_aload_n X (pc := 22) dX4_lean_22 rfl rfl ?_
      refine rc_getO (q := 0) X (pc := 23) fX4_10 rb_ob8 rfl dX4_lean_23 ?_
      refine rb_iload_n X (pc := 26) dX4_lean_26 rfl rfl ?_
      refine rc_callVi X (pc := 27) cvX3_hasBedFree mX4_185 (rb_obT (t := 0) (by decide)) (qX3_hasBedFree (t := 0) (by decide) (by omega)) (by decide) rfl rfl (Nat.le_of_ble_eq_true rfl) dX4_lean_27 ?_
      refine rb_if_ne X (pc := 30) (tgt := 40) dX4_lean_30 (by decide) (fun c30 => ?_) (fun c30 => ?_)
      · (try simp only [sp_b0, Classical.not_not] at c30)
        refine rb_aload_n X (pc := 40) dX4_lean_40 rfl rfl ?_
        refine rc_getO (q := 0) X (pc := 41) fX4_10 rb_ob8 rfl dX4_lean_41 ?_
        refine rb_iload_n X (pc := 44) dX4_lean_44 rfl rfl ?_
        refine rc_callVi X (pc := 45) cvX3_needsOf mX4_114 (rb_obT (t := 0) (by decide)) (qX3_needsOf (t := 0) (by decide) (by omega)) (by decide) rfl rfl (Nat.le_of_ble_eq_true rfl) dX4_lean_45 ?_
        refine rb_iret (S := []) X (pc := 48) Y dX4_lean_48 ?_
        exact pc_0 hC (by simp only [r_lean, c4, c12, er, eq1]; simp [c30])
      · (try simp only [sp_b0, Classical.not_not] at c30)
        refine rb_aload_n X (pc := 33) dX4_lean_33 rfl rfl ?_
        refine rb_ldc X (pc := 34) dX4_lean_34 kX4_184 ?_
        refine rc_callVi X (pc := 36) cvX4_finding mX4_57 rb_ob8 (qX4_finding (i := 3) (by decide) (by decide)) (by decide) rfl rfl (Nat.le_of_ble_eq_true rfl) dX4_lean_36 ?_
        refine rb_iret (S := []) X (pc := 39) Y dX4_lean_39 ?_
        exact pc_f hC (by simp only [r_lean, c4, c12, er, eq1]; simp [c30, ff_3])
    · (try simp only [sp_b0, Classical.not_not] at c12)
      refine rb_aload_n X (pc := 15) dX4_lean_15 rfl rfl ?_
      refine rb_ldc X (pc := 16) dX4_lean_16 kX4_56 ?_
      refine rc_callVi X (pc := 18) cvX4_finding mX4_57 rb_ob8 (qX4_finding (i := 0) (by decide) (by decide)) (by decide) rfl rfl (Nat.le_of_ble_eq_true rfl) dX4_lean_18 ?_
      refine rb_iret (S := []) X (pc := 21) Y dX4_lean_21 ?_
      first
      | exact pc_f hC (by simp [r_lean, ff_0, *]; done)
      | exact pc_Af hC (by simp [r_lean, ff_0, *]; done)
set_option maxRecDepth 100000 in
set_option maxHeartbeats 1000000 in
theorem qX4_host {G : rb_G} {σ : Sg} {h : rb_H} (hS : okS σ) (hC : CI σ h)  (r0 : Int32) : rb_M G 3 yX4_host cX4_host 3 (some .int) [.ref (rb_ad G 8 0), .int r0] (h) (PC h (r_host σ r0)) := by
  refine rb_meth (L := [.ref (rb_ad G 8 0), .int r0, .null]) (by decide) (Nat.le_of_ble_eq_true rfl) rfl (fun Z X Y => ?_)
  have X : rb_CX Z G cX4_host 3 RX4 3 := X
  obtain ⟨h, rfl⟩ : ∃ h0, h = tw h0 0 (sT σ) := ⟨h, (rb_st_self hC.1).symm⟩
  have hok := hS.1
  have hn4 := hok.1
  have hn10 := hok.2.1
  refine rb_aload_n X (pc := 0) dX4_host_0 rfl rfl ?_
  refine rb_iload_n X (pc := 1) dX4_host_1 rfl rfl ?_
  refine rc_callVi X (pc := 2) cvX4_isRumour mX4_93 rb_ob8 (qX4_isRumour _) (by decide) rfl rfl (Nat.le_of_ble_eq_true rfl) dX4_host_2 ?_
  refine rb_if_ne X (pc := 5) (tgt := 15) dX4_host_5 (by decide) (fun c5 => ?_) (fun c5 => ?_)
  · (try simp only [sp_b0, Classical.not_not] at c5)
    obtain ⟨r, hr, rfl⟩ := iR_of hok c5
    have er : ix (nI r) = r := nI_clamp (by omega)
    refine rb_aload_n X (pc := 15) dX4_host_15 rfl rfl ?_
    refine rc_getO (q := 0) X (pc := 16) fX4_10 rb_ob8 rfl dX4_host_16 ?_
    refine rb_iload_n X (pc := 19) dX4_host_19 rfl rfl ?_
    refine rc_callVi X (pc := 20) cvX3_hostFor mX4_136 (rb_obT (t := 0) (by decide)) (qX3_hostFor (t := 0) (by decide) (by omega)) (by decide) rfl rfl (Nat.le_of_ble_eq_true rfl) dX4_host_20 ?_
    refine rb_istore_n X (pc := 23) dX4_host_23 rfl (by decide) rfl rfl ?_
    refine rb_iload_n X (pc := 24) dX4_host_24 rfl rfl ?_
    refine rb_iconst (v := (-1)) X (pc := 25) dX4_host_25 (by decide) ?_
    refine rb_icmp_ne X (pc := 26) (tgt := 38) dX4_host_26 (by decide) (fun c26 => ?_) (fun c26 => ?_)
    · refine rb_iload_n X (pc := 38) dX4_host_38 rfl rfl ?_
      refine rb_iret (S := []) X (pc := 39) Y dX4_host_39 ?_
      first
      | exact pc_0 hC (by simp [r_host, c5, er, c26]; done)
      | exact pc_f hC (by simp [r_host, c5, er, ff_3, show sp_host (sT σ) r = -1 by simpa using c26])
    · refine rb_aload_n X (pc := 29) dX4_host_29 rfl rfl ?_
      refine rb_ldc X (pc := 30) dX4_host_30 kX4_184 ?_
      refine rc_callVi X (pc := 32) cvX4_finding mX4_57 rb_ob8 (qX4_finding (i := 3) (by decide) (by decide)) (by decide) rfl rfl (Nat.le_of_ble_eq_true rfl) dX4_host_32 ?_
      refine rb_goto X (pc := 35) (tgt := 39) dX4_host_35 (by decide) ?_
      refine rb_iret (S := []) X (pc := 39) Y dX4_host_39 ?_
      first
      | exact pc_0 hC (by simp [r_host, c5, er, c26]; done)
      | exact pc_f hC (by simp [r_host, c5, er, ff_3, show sp_host (sT σ) r = -1 by simpa using c26])
  · (try simp only [sp_b0, Classical.not_not] at c5)
    refine rb_aload_n X (pc := 8) dX4_host_8 rfl rfl ?_
    refine rb_ldc X (pc := 9) dX4_host_9 kX4_56 ?_
    refine rc_callVi X (pc := 11) cvX4_finding mX4_57 rb_ob8 (qX4_finding (i := 0) (by decide) (by decide)) (by decide) rfl rfl (Nat.le_of_ble_eq_true rfl) dX4_host_11 ?_
    refine rb_iret (S := []) X (pc := 14) Y dX4_host_14 ?_
    first
    | exact pc_f hC (by simp [r_host, ff_0, *]; done)
    | exact pc_Af hC (by simp [r_host, ff_0, *]; done)
