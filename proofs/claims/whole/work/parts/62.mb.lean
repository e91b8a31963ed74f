set_option maxRecDepth 100000 in
set_option maxHeartbeats 1000000 in
theorem qX5_eats {G : rb_G} {h : rb_H} {T : rb_T} {r : Nat} (hr : r < 10) : rb_M G 2 yX5_eats cX5_eats 4 (some .int) [.ref (rb_ad G 9 0), .int (nI r)] (ms h T) (rb_F (some (.int (sp_eR T r))) (ms h T)) := by
  refine rb_meth (L := [.ref (rb_ad G 9 0), .int (nI r), .null, .null]) (by decide) (Nat.le_of_ble_eq_true rfl) rfl (fun Z X Y => ?_)
  have X : rb_CX Z G cX5_eats 4 RX5 2 := X
  refine rb_aload_n X (pc := 0) dX5_eats_0 rfl rfl ?_
  refine rb_iload_n X (pc := 1) dX5_eats_1 rfl rfl ?_
  refine rb_iconst (v := 2) X (pc := 2) dX5_eats_2 (by decide) ?_
  refine rc_callVi X (pc := 3) cvX5_its mX5_78 rb_ob9 (qI2 (by omega)) (by decide) rfl rfl (Nat.le_of_ble_eq_true rfl) dX5_eats_3 ?_
  refine rb_bipush (v := 10) X (pc := 6) dX5_eats_6 (by decide) ?_
  refine rb_idiv X (pc := 8) dX5_eats_8 (by decide) ?_
  refine rb_iconst (v := 1) X (pc := 9) dX5_eats_9 (by decide) ?_
  refine rb_iadd X (pc := 10) dX5_eats_10 ?_
  refine rb_istore_n X (pc := 11) dX5_eats_11 rfl (by decide) rfl rfl ?_
  refine rb_iload_n X (pc := 12) dX5_eats_12 rfl rfl ?_
  refine rb_aload_n X (pc := 13) dX5_eats_13 rfl rfl ?_
  refine rb_iload_n X (pc := 14) dX5_eats_14 rfl rfl ?_
  refine rb_iconst (v := 3) X (pc := 15) dX5_eats_15 (by decide) ?_
  refine rc_callVi X (pc := 16) cvX5_its mX5_78 rb_ob9 (qI3 (by omega)) (by decide) rfl rfl (Nat.le_of_ble_eq_true rfl) dX5_eats_16 ?_
  refine rb_bipush (v := 10) X (pc := 19) dX5_eats_19 (by decide) ?_
  refine rb_idiv X (pc := 21) dX5_eats_21 (by decide) ?_
  refine rb_isub X (pc := 22) dX5_eats_22 ?_
  refine rb_istore_n X (pc := 23) dX5_eats_23 rfl (by decide) rfl rfl ?_
  refine rb_aload_n X (pc := 24) dX5_eats_24 rfl rfl ?_
  refine rb_iload_n X (pc := 25) dX5_eats_25 rfl rfl ?_
  refine rb_iconst (v := 0) X (pc := 26) dX5_eats_26 (by decide) ?_
  refine rc_callVi X (pc := 27) cvX5_its mX5_78 rb_ob9 (qI0 (by omega)) (by decide) rfl rfl (Nat.le_of_ble_eq_true rfl) dX5_eats_27 ?_
  refine rc_tabC X (pc := 30) (v := 1) (i := 0) (tgt := 64) dX5_eats_30 (by decide) (by decide) rfl (by decide) (fun c30 => ?_) (fun n30_1 => ?_)
  · refine rb_iconst (v := 2) X (pc := 64) dX5_eats_64 (by decide) ?_
    refine rb_iload_n X (pc := 65) dX5_eats_65 rfl rfl ?_
    refine rb_imul X (pc := 66) dX5_eats_66 ?_
    refine rb_iret (S := []) X (pc := 67) Y dX5_eats_67 ?_
    exact ⟨by simp [sp_eR, sp_eats, *], rfl⟩
  refine rc_tabC X (pc := 30) (v := 2) (i := 1) (tgt := 68) dX5_eats_30 (by decide) (by decide) rfl (by decide) (fun c30 => ?_) (fun n30_2 => ?_)
  · refine rb_iconst (v := 1) X (pc := 68) dX5_eats_68 (by decide) ?_
    refine rb_iret (S := []) X (pc := 69) Y dX5_eats_69 ?_
    exact ⟨by simp [sp_eR, sp_eats, *], rfl⟩
  refine rc_tabC X (pc := 30) (v := 3) (i := 2) (tgt := 70) dX5_eats_30 (by decide) (by decide) rfl (by decide) (fun c30 => ?_) (fun n30_3 => ?_)
  · refine rb_iload_n X (pc := 70) dX5_eats_70 rfl rfl ?_
    refine rb_if_ge X (pc := 71) (tgt := 78) dX5_eats_71 (by decide) (fun c71 => ?_) (fun c71 => ?_)
    · have c71 := Int32.not_lt.mpr c71
      refine rb_iload_n X (pc := 78) dX5_eats_78 rfl rfl ?_
      refine rb_iret (S := []) X (pc := 79) Y dX5_eats_79 ?_
      refine ⟨?_, rfl⟩
      have e : sp_eR T r = if 0 < T 7 r / 10 + 1 - T 8 r / 10 then T 7 r / 10 + 1 - T 8 r / 10 else 0 := by
        show sp_eats (T 5 r) (T 7 r) (T 8 r) = _
        rw [sp_eats, c30, if_neg (by decide), if_neg (by decide), if_pos rfl]
      rw [e]
      first
      | (rw [if_neg (fun z => Int32.lt_irrefl (Int32.lt_trans z c71))]; done)
      | (rcases Int32.lt_or_eq_of_le (Int32.not_lt.mp c71) with z | z
         · rw [if_pos z]
         · rw [← z]; rfl)
    · have c71 := Int32.not_le.mp c71
      refine rb_iconst (v := 0) X (pc := 74) dX5_eats_74 (by decide) ?_
      refine rb_goto X (pc := 75) (tgt := 79) dX5_eats_75 (by decide) ?_
      refine rb_iret (S := []) X (pc := 79) Y dX5_eats_79 ?_
      refine ⟨?_, rfl⟩
      have e : sp_eR T r = if 0 < T 7 r / 10 + 1 - T 8 r / 10 then T 7 r / 10 + 1 - T 8 r / 10 else 0 := by
        show sp_eats (T 5 r) (T 7 r) (T 8 r) = _
        rw [sp_eats, c30, if_neg (by decide), if_neg (by decide), if_pos rfl]
      rw [e]
      first
      | (rw [if_neg (fun z => Int32.lt_irrefl (Int32.lt_trans z c71))]; done)
      | (rcases Int32.lt_or_eq_of_le (Int32.not_lt.mp c71) with z | z
         · rw [if_pos z]
         · rw [← z]; rfl)
  refine rc_tabC X (pc := 30) (v := 4) (i := 3) (tgt := 80) dX5_eats_30 (by decide) (by decide) rfl (by decide) (fun c30 => ?_) (fun n30_4 => ?_)
  · refine rb_iconst (v := 2) X (pc := 80) dX5_eats_80 (by decide) ?_
    refine rb_iload_n X (pc := 81) dX5_eats_81 rfl rfl ?_
    refine rb_imul X (pc := 82) dX5_eats_82 ?_
    refine rb_iconst (v := 3) X (pc := 83) dX5_eats_83 (by decide) ?_
    refine rb_iadd X (pc := 84) dX5_eats_84 ?_
    refine rb_iret (S := []) X (pc := 85) Y dX5_eats_85 ?_
    exact ⟨by simp [sp_eR, sp_eats, *], rfl⟩
  refine rc_tabC X (pc := 30) (v := 5) (i := 4) (tgt := 86) dX5_eats_30 (by decide) (by decide) rfl (by decide) (fun c30 => ?_) (fun n30_5 => ?_)
  · refine rb_iconst (v := 0) X (pc := 86) dX5_eats_86 (by decide) ?_
    refine rb_iret (S := []) X (pc := 87) Y dX5_eats_87 ?_
    exact ⟨by simp [sp_eR, sp_eats, *], rfl⟩
  refine rb_tabOut X (pc := 30) (tgt := 88) dX5_eats_30 (by have z1 := lv_neT n30_1 (a := 1) rfl; have z2 := lv_neT n30_2 (a := 2) rfl; have z3 := lv_neT n30_3 (a := 3) rfl; have z4 := lv_neT n30_4 (a := 4) rfl; have z5 := lv_neT n30_5 (a := 5) rfl; omega) (by decide) ?_
  refine rb_iload_n X (pc := 88) dX5_eats_88 rfl rfl ?_
  refine rb_iret (S := []) X (pc := 89) Y dX5_eats_89 ?_
  exact ⟨by simp [sp_eR, sp_eats, *], rfl⟩
set_option maxRecDepth 100000 in
set_option maxHeartbeats 1000000 in
theorem qX5_needs {G : rb_G} {h : rb_H} {T : rb_T} {r : Nat} (hr : r < 10) : rb_M G 2 yX5_needs cX5_needs 3 (some .int) [.ref (rb_ad G 9 0), .int (nI r)] (ms h T) (rb_F (some (.int (sp_nR T r))) (ms h T)) := by
  refine rb_meth (L := [.ref (rb_ad G 9 0), .int (nI r), .null]) (by decide) (Nat.le_of_ble_eq_true rfl) rfl (fun Z X Y => ?_)
  have X : rb_CX Z G cX5_needs 3 RX5 2 := X
  refine rb_aload_n X (pc := 0) dX5_needs_0 rfl rfl ?_
  refine rb_iload_n X (pc := 1) dX5_needs_1 rfl rfl ?_
  refine rb_iconst (v := 2) X (pc := 2) dX5_needs_2 (by decide) ?_
  refine rc_callVi X (pc := 3) cvX5_its mX5_78 rb_ob9 (qI2 (by omega)) (by decide) rfl rfl (Nat.le_of_ble_eq_true rfl) dX5_needs_3 ?_
  refine rb_bipush (v := 20) X (pc := 6) dX5_needs_6 (by decide) ?_
  refine rb_icmp_ge X (pc := 8) (tgt := 15) dX5_needs_8 (by decide) (fun c8 => ?_) (fun c8 => ?_)
  · have c8 := Int32.not_lt.mpr c8
    refine rb_iconst (v := 3) X (pc := 15) dX5_needs_15 (by decide) ?_
    refine rb_istore_n X (pc := 16) dX5_needs_16 rfl (by decide) rfl rfl ?_
    refine rb_aload_n X (pc := 17) dX5_needs_17 rfl rfl ?_
    refine rb_iload_n X (pc := 18) dX5_needs_18 rfl rfl ?_
    refine rb_iconst (v := 0) X (pc := 19) dX5_needs_19 (by decide) ?_
    refine rc_callVi X (pc := 20) cvX5_its mX5_78 rb_ob9 (qI0 (by omega)) (by decide) rfl rfl (Nat.le_of_ble_eq_true rfl) dX5_needs_20 ?_
    refine rc_tabC X (pc := 23) (v := 1) (i := 0) (tgt := 56) dX5_needs_23 (by decide) (by decide) rfl (by decide) (fun c23 => ?_) (fun n23_1 => ?_)
    · refine rb_iload_n X (pc := 56) dX5_needs_56 rfl rfl ?_
      refine rb_iret (S := []) X (pc := 57) Y dX5_needs_57 ?_
      exact ⟨by simp [sp_nR, sp_needs, sp_big, *], rfl⟩
    refine rc_tabC X (pc := 23) (v := 2) (i := 1) (tgt := 58) dX5_needs_23 (by decide) (by decide) rfl (by decide) (fun c23 => ?_) (fun n23_2 => ?_)
    · refine rb_bipush (v := 6) X (pc := 58) dX5_needs_58 (by decide) ?_
      refine rb_iret (S := []) X (pc := 60) Y dX5_needs_60 ?_
      exact ⟨by simp [sp_nR, sp_needs, sp_big, *], rfl⟩
    refine rc_tabC X (pc := 23) (v := 3) (i := 2) (tgt := 61) dX5_needs_23 (by decide) (by decide) rfl (by decide) (fun c23 => ?_) (fun n23_3 => ?_)
    · refine rb_iconst (v := 4) X (pc := 61) dX5_needs_61 (by decide) ?_
      refine rb_iret (S := []) X (pc := 62) Y dX5_needs_62 ?_
      exact ⟨by simp [sp_nR, sp_needs, sp_big, *], rfl⟩
    refine rc_tabC X (pc := 23) (v := 4) (i := 3) (tgt := 63) dX5_needs_23 (by decide) (by decide) rfl (by decide) (fun c23 => ?_) (fun n23_4 => ?_)
    · refine rb_iload_n X (pc := 63) dX5_needs_63 rfl rfl ?_
      refine rb_iconst (v := 1) X (pc := 64) dX5_needs_64 (by decide) ?_
      refine rb_isub X (pc := 65) dX5_needs_65 ?_
      refine rb_iret (S := []) X (pc := 66) Y dX5_needs_66 ?_
      exact ⟨by simp [sp_nR, sp_needs, sp_big, *], rfl⟩
    refine rc_tabC X (pc := 23) (v := 5) (i := 4) (tgt := 67) dX5_needs_23 (by decide) (by decide) rfl (by decide) (fun c23 => ?_) (fun n23_5 => ?_)
    · refine rb_bipush (v := 7) X (pc := 67) dX5_needs_67 (by decide) ?_
      refine rb_iret (S := []) X (pc := 69) Y dX5_needs_69 ?_
      exact ⟨by simp [sp_nR, sp_needs, sp_big, *], rfl⟩
    refine rb_tabOut X (pc := 23) (tgt := 70) dX5_needs_23 (by have z1 := lv_neT n23_1 (a := 1) rfl; have z2 := lv_neT n23_2 (a := 2) rfl; have z3 := lv_neT n23_3 (a := 3) rfl; have z4 := lv_neT n23_4 (a := 4) rfl; have z5 := lv_neT n23_5 (a := 5) rfl; omega) (by decide) ?_
    refine rb_iconst (v := 3) X (pc := 70) dX5_needs_70 (by decide) ?_
    refine rb_iret (S := []) X (pc := 71) Y dX5_needs_71 ?_
    exact ⟨by simp [sp_nR, sp_needs, sp_big, *], rfl⟩
  · have c8 := Int32.not_le.mp c8
    refine rb_iconst (v := 1) X (pc := 11) dX5_needs_11 (by decide) ?_
    refine rb_goto X (pc := 12) (tgt := 16) dX5_needs_12 (by decide) ?_
    refine rb_istore_n X (pc := 16) dX5_needs_16 rfl (by decide) rfl rfl ?_
    refine rb_aload_n X (pc := 17) dX5_needs_17 rfl rfl ?_
    refine rb_iload_n X (pc := 18) dX5_needs_18 rfl rfl ?_
    refine rb_iconst (v := 0) X (pc := 19) dX5_needs_19 (by decide) ?_
    refine rc_callVi X (pc := 20) cvX5_its mX5_78 rb_ob9 (qI0 (by omega)) (by decide) rfl rfl (Nat.le_of_ble_eq_true rfl) dX5_needs_20 ?_
    refine rc_tabC X (pc := 23) (v := 1) (i := 0) (tgt := 56) dX5_needs_23 (by decide) (by decide) rfl (by decide) (fun c23 => ?_) (fun n23_1 => ?_)
    · refine rb_iload_n X (pc := 56) dX5_needs_56 rfl rfl ?_
      refine rb_iret (S := []) X (pc := 57) Y dX5_needs_57 ?_
      exact ⟨by simp [sp_nR, sp_needs, sp_big, *], rfl⟩
    refine rc_tabC X (pc := 23) (v := 2) (i := 1) (tgt := 58) dX5_needs_23 (by decide) (by decide) rfl (by decide) (fun c23 => ?_) (fun n23_2 => ?_)
    · refine rb_bipush (v := 6) X (pc := 58) dX5_needs_58 (by decide) ?_
      refine rb_iret (S := []) X (pc := 60) Y dX5_needs_60 ?_
      exact ⟨by simp [sp_nR, sp_needs, sp_big, *], rfl⟩
    refine rc_tabC X (pc := 23) (v := 3) (i := 2) (tgt := 61) dX5_needs_23 (by decide) (by decide) rfl (by decide) (fun c23 => ?_) (fun n23_3 => ?_)
    · refine rb_iconst (v := 4) X (pc := 61) dX5_needs_61 (by decide) ?_
      refine rb_iret (S := []) X (pc := 62) Y dX5_needs_62 ?_
      exact ⟨by simp [sp_nR, sp_needs, sp_big, *], rfl⟩
    refine rc_tabC X (pc := 23) (v := 4) (i := 3) (tgt := 63) dX5_needs_23 (by decide) (by decide) rfl (by decide) (fun c23 => ?_) (fun n23_4 => ?_)
    · refine rb_iload_n X (pc := 63) dX5_needs_63 rfl rfl ?_
      refine rb_iconst (v := 1) X (pc := 64) dX5_needs_64 (by decide) ?_
      refine rb_isub X (pc := 65) dX5_needs_65 ?_
      refine rb_iret (S := []) X (pc := 66) Y dX5_needs_66 ?_
      exact ⟨by simp [sp_nR, sp_needs, sp_big, *], rfl⟩
    refine rc_tabC X (pc := 23) (v := 5) (i := 4) (tgt := 67) dX5_needs_23 (by decide) (by decide) rfl (by decide) (fun c23 => ?_) (fun n23_5 => ?_)
    · refine rb_bipush (v := 7) X (pc := 67) dX5_needs_67 (by decide) ?_
      refine rb_iret (S := []) X (pc := 69) Y dX5_needs_69 ?_
      exact ⟨by simp [sp_nR, sp_needs, sp_big, *], rfl⟩
    refine rb_tabOut X (pc := 23) (tgt := 70) dX5_needs_23 (by have z1 := lv_neT n23_1 (a := 1) rfl; have z2 := lv_neT n23_2 (a := 2) rfl; have z3 := lv_neT n23_3 (a := 3) rfl; have z4 := lv_neT n23_4 (a := 4) rfl; have z5 := lv_neT n23_5 (a := 5) rfl; omega) (by decide) ?_
    refine rb_iconst (v := 3) X (pc := 70) dX5_needs_70 (by decide) ?_
    refine rb_iret (S := []) X (pc := 71) Y dX5_needs_71 ?_
    exact ⟨by simp [sp_nR, sp_needs, sp_big, *], rfl⟩
set_option maxRecDepth 100000 in
set_option maxHeartbeats 1000000 in
theorem qX5_grows {G : rb_G} {h : rb_H} {T : rb_T} {r : Nat} (hr : r < 10) : rb_M G 2 yX5_grows cX5_grows 2 (some .int) [.ref (rb_ad G 9 0), .int (nI r)] (ms h T) (rb_F (some (.int (sp_gR T r))) (ms h T)) := by
  refine rb_meth (L := [.ref (rb_ad G 9 0), .int (nI r)]) (by decide) (Nat.le_of_ble_eq_true rfl) rfl (fun Z X Y => ?_)
  have X : rb_CX Z G cX5_grows 2 RX5 2 := X
  refine rb_aload_n X (pc := 0) dX5_grows_0 rfl rfl ?_
  refine rb_iload_n X (pc := 1) dX5_grows_1 rfl rfl ?_
  refine rb_iconst (v := 0) X (pc := 2) dX5_grows_2 (by decide) ?_
  refine rc_callVi X (pc := 3) cvX5_its mX5_78 rb_ob9 (qI0 (by omega)) (by decide) rfl rfl (Nat.le_of_ble_eq_true rfl) dX5_grows_3 ?_
  refine rc_tabC X (pc := 6) (v := 1) (i := 0) (tgt := 40) dX5_grows_6 (by decide) (by decide) rfl (by decide) (fun c6 => ?_) (fun n6_1 => ?_)
  · refine rb_aload_n X (pc := 40) dX5_grows_40 rfl rfl ?_
    refine rb_iload_n X (pc := 41) dX5_grows_41 rfl rfl ?_
    refine rb_iconst (v := 2) X (pc := 42) dX5_grows_42 (by decide) ?_
    refine rc_callVi X (pc := 43) cvX5_its mX5_78 rb_ob9 (qI2 (by omega)) (by decide) rfl rfl (Nat.le_of_ble_eq_true rfl) dX5_grows_43 ?_
    refine rb_bipush (v := 10) X (pc := 46) dX5_grows_46 (by decide) ?_
    refine rb_idiv X (pc := 48) dX5_grows_48 (by decide) ?_
    refine rb_iconst (v := 1) X (pc := 49) dX5_grows_49 (by decide) ?_
    refine rb_iadd X (pc := 50) dX5_grows_50 ?_
    refine rb_iret (S := []) X (pc := 51) Y dX5_grows_51 ?_
    exact ⟨by simp_all [sp_gR, sp_grows], rfl⟩
  refine rc_tabC X (pc := 6) (v := 2) (i := 1) (tgt := 52) dX5_grows_6 (by decide) (by decide) rfl (by decide) (fun c6 => ?_) (fun n6_2 => ?_)
  · refine rb_iconst (v := 0) X (pc := 52) dX5_grows_52 (by decide) ?_
    refine rb_iret (S := []) X (pc := 53) Y dX5_grows_53 ?_
    exact ⟨by simp_all [sp_gR, sp_grows], rfl⟩
  refine rc_tabC X (pc := 6) (v := 3) (i := 2) (tgt := 54) dX5_grows_6 (by decide) (by decide) rfl (by decide) (fun c6 => ?_) (fun n6_3 => ?_)
  · refine rb_aload_n X (pc := 54) dX5_grows_54 rfl rfl ?_
    refine rb_iload_n X (pc := 55) dX5_grows_55 rfl rfl ?_
    refine rb_iconst (v := 3) X (pc := 56) dX5_grows_56 (by decide) ?_
    refine rc_callVi X (pc := 57) cvX5_its mX5_78 rb_ob9 (qI3 (by omega)) (by decide) rfl rfl (Nat.le_of_ble_eq_true rfl) dX5_grows_57 ?_
    refine rb_iconst (v := 2) X (pc := 60) dX5_grows_60 (by decide) ?_
    refine rb_irem X (pc := 61) dX5_grows_61 (by decide) ?_
    refine rb_if_ne X (pc := 62) (tgt := 69) dX5_grows_62 (by decide) (fun c62 => ?_) (fun c62 => ?_)
    · refine rb_iconst (v := 0) X (pc := 69) dX5_grows_69 (by decide) ?_
      refine rb_iret (S := []) X (pc := 70) Y dX5_grows_70 ?_
      exact ⟨by simp_all [sp_gR, sp_grows], rfl⟩
    · refine rb_iconst (v := 1) X (pc := 65) dX5_grows_65 (by decide) ?_
      refine rb_goto X (pc := 66) (tgt := 70) dX5_grows_66 (by decide) ?_
      refine rb_iret (S := []) X (pc := 70) Y dX5_grows_70 ?_
      exact ⟨by simp_all [sp_gR, sp_grows], rfl⟩
  refine rc_tabC X (pc := 6) (v := 4) (i := 3) (tgt := 40) dX5_grows_6 (by decide) (by decide) rfl (by decide) (fun c6 => ?_) (fun n6_4 => ?_)
  · refine rb_aload_n X (pc := 40) dX5_grows_40 rfl rfl ?_
    refine rb_iload_n X (pc := 41) dX5_grows_41 rfl rfl ?_
    refine rb_iconst (v := 2) X (pc := 42) dX5_grows_42 (by decide) ?_
    refine rc_callVi X (pc := 43) cvX5_its mX5_78 rb_ob9 (qI2 (by omega)) (by decide) rfl rfl (Nat.le_of_ble_eq_true rfl) dX5_grows_43 ?_
    refine rb_bipush (v := 10) X (pc := 46) dX5_grows_46 (by decide) ?_
    refine rb_idiv X (pc := 48) dX5_grows_48 (by decide) ?_
    refine rb_iconst (v := 1) X (pc := 49) dX5_grows_49 (by decide) ?_
    refine rb_iadd X (pc := 50) dX5_grows_50 ?_
    refine rb_iret (S := []) X (pc := 51) Y dX5_grows_51 ?_
    exact ⟨by simp_all [sp_gR, sp_grows], rfl⟩
  refine rc_tabC X (pc := 6) (v := 5) (i := 4) (tgt := 52) dX5_grows_6 (by decide) (by decide) rfl (by decide) (fun c6 => ?_) (fun n6_5 => ?_)
  · refine rb_iconst (v := 0) X (pc := 52) dX5_grows_52 (by decide) ?_
    refine rb_iret (S := []) X (pc := 53) Y dX5_grows_53 ?_
    exact ⟨by simp_all [sp_gR, sp_grows], rfl⟩
  refine rb_tabOut X (pc := 6) (tgt := 71) dX5_grows_6 (by have z1 := lv_neT n6_1 (a := 1) rfl; have z2 := lv_neT n6_2 (a := 2) rfl; have z3 := lv_neT n6_3 (a := 3) rfl; have z4 := lv_neT n6_4 (a := 4) rfl; have z5 := lv_neT n6_5 (a := 5) rfl; omega) (by decide) ?_
  refine rb_iconst (v := 1) X (pc := 71) dX5_grows_71 (by decide) ?_
  refine rb_iret (S := []) X (pc := 72) Y dX5_grows_72 ?_
  exact ⟨by simp_all [sp_gR, sp_grows], rfl⟩
set_option maxRecDepth 100000 in
set_option maxHeartbeats 1000000 in
theorem lpX5_thoseAt_4 {Z : rb_Z} {G : rb_G} {h : rb_H} {T : rb_T} (hn : T 4 0 = nI (sp_n T)) (hn10 : sp_n T ≤ 10) {p : Int32} (X : rb_CX Z G cX5_thoseAt 4 RX5 2) (Y : rb_RT Z G (some .int) (rb_F (some (.int (sp_those T p (sp_n T)))) (ms h T))) : ∀ fu : Nat, ∀ i : Nat, i ≤ sp_n T → sp_n T + 1 ≤ i + fu → rb_WP Z G 4 4 [.ref (rb_ad G 9 0), .int p, .int (sp_those T p i), .int (nI i)] [] (ms h T) := by
  intro fu
  induction fu with
  | zero => intro i hi hf; omega
  | succ fu ih =>
    intro i hi hf
    refine rb_iload_n X (pc := 4) dX5_thoseAt_4 rfl rfl ?_
    refine rb_aload_n X (pc := 5) dX5_thoseAt_5 rfl rfl ?_
    refine rc_getR X (pc := 6) fX5_7 rb_ob9 rfl dX5_thoseAt_6 ?_
    refine rb_iconst (v := 0) X (pc := 9) dX5_thoseAt_9 (by decide) ?_
    refine rc_ialdv X (pc := 10) 0 rb_ar9_0 ms_0 rfl (by decide) dX5_thoseAt_10 ?_
    refine rb_icmp_ge X (pc := 11) (tgt := 40) dX5_thoseAt_11 (by decide) (fun c11 => ?_) (fun c11 => ?_)
    · have hi2 := (sp_geI hn (by omega) (by omega)).mp c11
      obtain rfl : i = sp_n T := by omega
      refine rb_iload_n X (pc := 40) dX5_thoseAt_40 rfl rfl ?_
      refine rb_iret (S := []) X (pc := 41) Y dX5_thoseAt_41 ?_
      exact ⟨rfl, rfl⟩
    · have hi2 : i < sp_n T := Nat.lt_of_not_le (fun z => c11 ((sp_geI hn (by omega) (by omega)).mpr z))
      refine rb_iload_n X (pc := 14) dX5_thoseAt_14 rfl rfl ?_
      refine rb_aload_n X (pc := 15) dX5_thoseAt_15 rfl rfl ?_
      refine rb_iload_n X (pc := 16) dX5_thoseAt_16 rfl rfl ?_
      refine rb_iconst (v := 4) X (pc := 17) dX5_thoseAt_17 (by decide) ?_
      refine rc_callVi X (pc := 18) cvX5_its mX5_78 rb_ob9 (qI4 (by omega)) (by decide) rfl rfl (Nat.le_of_ble_eq_true rfl) dX5_thoseAt_18 ?_
      refine rb_iload_n X (pc := 21) dX5_thoseAt_21 rfl rfl ?_
      refine rb_icmp_ne X (pc := 22) (tgt := 31) dX5_thoseAt_22 (by decide) (fun c22 => ?_) (fun c22 => ?_)
      · refine rb_iconst (v := 0) X (pc := 31) dX5_thoseAt_31 (by decide) ?_
        refine rb_ior X (pc := 32) dX5_thoseAt_32 ?_
        refine rb_istore_n X (pc := 33) dX5_thoseAt_33 rfl (by decide) rfl rfl ?_
        refine rb_iinc X (pc := 34) dX5_thoseAt_34 rfl (sp_inc _) (by decide) rfl rfl ?_
        refine rb_goto X (pc := 37) (tgt := 4) dX5_thoseAt_37 (by decide) ?_
        exact sp_go (by first | (simp [sp_those, sp_fold_s, or_if, *]; done) | (simp [sp_those, sp_fold_s, or_if, *]; rfl)) rfl (ih (i + 1) (by omega) (by omega))
      · refine rb_iconst (v := 1) X (pc := 25) dX5_thoseAt_25 (by decide) ?_
        refine rb_iload_n X (pc := 26) dX5_thoseAt_26 rfl rfl ?_
        refine rb_ishl X (pc := 27) dX5_thoseAt_27 ?_
        refine rb_goto X (pc := 28) (tgt := 32) dX5_thoseAt_28 (by decide) ?_
        refine rb_ior X (pc := 32) dX5_thoseAt_32 ?_
        refine rb_istore_n X (pc := 33) dX5_thoseAt_33 rfl (by decide) rfl rfl ?_
        refine rb_iinc X (pc := 34) dX5_thoseAt_34 rfl (sp_inc _) (by decide) rfl rfl ?_
        refine rb_goto X (pc := 37) (tgt := 4) dX5_thoseAt_37 (by decide) ?_
        exact sp_go (by first | (simp [sp_those, sp_fold_s, or_if, *]; done) | (simp [sp_those, sp_fold_s, or_if, *]; rfl)) rfl (ih (i + 1) (by omega) (by omega))
set_option maxRecDepth 100000 in
set_option maxHeartbeats 1000000 in
theorem qX5_thoseAt {G : rb_G} {h : rb_H} {T : rb_T} (hn : T 4 0 = nI (sp_n T)) (hn10 : sp_n T ≤ 10) (p : Int32) : rb_M G 2 yX5_thoseAt cX5_thoseAt 4 (some .int) [.ref (rb_ad G 9 0), .int p] (ms h T) (rb_F (some (.int (sp_those T p (sp_n T)))) (ms h T)) := by
  refine rb_meth (L := [.ref (rb_ad G 9 0), .int p, .null, .null]) (by decide) (Nat.le_of_ble_eq_true rfl) rfl (fun Z X Y => ?_)
  have X : rb_CX Z G cX5_thoseAt 4 RX5 2 := X
  refine rb_iconst (v := 0) X (pc := 0) dX5_thoseAt_0 (by decide) ?_
  refine rb_istore_n X (pc := 1) dX5_thoseAt_1 rfl (by decide) rfl rfl ?_
  refine rb_iconst (v := 0) X (pc := 2) dX5_thoseAt_2 (by decide) ?_
  refine rb_istore_n X (pc := 3) dX5_thoseAt_3 rfl (by decide) rfl rfl ?_
  exact sp_go rfl rfl (lpX5_thoseAt_4 hn hn10 X Y (sp_n T + 1) 0 (by omega) (by omega))
set_option maxRecDepth 100000 in
set_option maxHeartbeats 1000000 in
theorem lpX5_eventsAt_4 {Z : rb_Z} {G : rb_G} {h : rb_H} {T : rb_T} (hn : T 4 0 = nI (sp_n T)) (hn10 : sp_n T ≤ 10) {p : Int32} (X : rb_CX Z G cX5_eventsAt 4 RX5 2) (Y : rb_RT Z G (some .int) (rb_F (some (.int (sp_evs T p (sp_n T)))) (ms h T))) : ∀ fu : Nat, ∀ i : Nat, i ≤ sp_n T → sp_n T + 1 ≤ i + fu → rb_WP Z G 4 4 [.ref (rb_ad G 9 0), .int p, .int (sp_evs T p i), .int (nI i)] [] (ms h T) := by
  intro fu
  induction fu with
  | zero => intro i hi hf; omega
  | succ fu ih =>
    intro i hi hf
    refine rb_iload_n X (pc := 4) dX5_eventsAt_4 rfl rfl ?_
    refine rb_aload_n X (pc := 5) dX5_eventsAt_5 rfl rfl ?_
    refine rc_getR X (pc := 6) fX5_7 rb_ob9 rfl dX5_eventsAt_6 ?_
    refine rb_iconst (v := 0) X (pc := 9) dX5_eventsAt_9 (by decide) ?_
    refine rc_ialdv X (pc := 10) 0 rb_ar9_0 ms_0 rfl (by decide) dX5_eventsAt_10 ?_
    refine rb_icmp_ge X (pc := 11) (tgt := 45) dX5_eventsAt_11 (by decide) (fun c11 => ?_) (fun c11 => ?_)
    · have hi2 := (sp_geI hn (by omega) (by omega)).mp c11
      obtain rfl : i = sp_n T := by omega
      refine rb_iload_n X (pc := 45) dX5_eventsAt_45 rfl rfl ?_
      refine rb_iret (S := []) X (pc := 46) Y dX5_eventsAt_46 ?_
      exact ⟨rfl, rfl⟩
    · have hi2 : i < sp_n T := Nat.lt_of_not_le (fun z => c11 ((sp_geI hn (by omega) (by omega)).mpr z))
      refine rb_iload_n X (pc := 14) dX5_eventsAt_14 rfl rfl ?_
      refine rb_aload_n X (pc := 15) dX5_eventsAt_15 rfl rfl ?_
      refine rb_iload_n X (pc := 16) dX5_eventsAt_16 rfl rfl ?_
      refine rb_iconst (v := 4) X (pc := 17) dX5_eventsAt_17 (by decide) ?_
      refine rc_callVi X (pc := 18) cvX5_its mX5_78 rb_ob9 (qI4 (by omega)) (by decide) rfl rfl (Nat.le_of_ble_eq_true rfl) dX5_eventsAt_18 ?_
      refine rb_iload_n X (pc := 21) dX5_eventsAt_21 rfl rfl ?_
      refine rb_icmp_ne X (pc := 22) (tgt := 36) dX5_eventsAt_22 (by decide) (fun c22 => ?_) (fun c22 => ?_)
      · refine rb_iconst (v := 0) X (pc := 36) dX5_eventsAt_36 (by decide) ?_
        refine rb_ior X (pc := 37) dX5_eventsAt_37 ?_
        refine rb_istore_n X (pc := 38) dX5_eventsAt_38 rfl (by decide) rfl rfl ?_
        refine rb_iinc X (pc := 39) dX5_eventsAt_39 rfl (sp_inc _) (by decide) rfl rfl ?_
        refine rb_goto X (pc := 42) (tgt := 4) dX5_eventsAt_42 (by decide) ?_
        exact sp_go (by first | (simp [sp_evs, sp_fold_s, *]; done) | (simp [sp_evs, sp_fold_s, *]; rfl)) rfl (ih (i + 1) (by omega) (by omega))
      · refine rb_iconst (v := 1) X (pc := 25) dX5_eventsAt_25 (by decide) ?_
        refine rb_aload_n X (pc := 26) dX5_eventsAt_26 rfl rfl ?_
        refine rb_iload_n X (pc := 27) dX5_eventsAt_27 rfl rfl ?_
        refine rb_iconst (v := 1) X (pc := 28) dX5_eventsAt_28 (by decide) ?_
        refine rc_callVi X (pc := 29) cvX5_its mX5_78 rb_ob9 (qI1 (by omega)) (by decide) rfl rfl (Nat.le_of_ble_eq_true rfl) dX5_eventsAt_29 ?_
        refine rb_ishl X (pc := 32) dX5_eventsAt_32 ?_
        refine rb_goto X (pc := 33) (tgt := 37) dX5_eventsAt_33 (by decide) ?_
        refine rb_ior X (pc := 37) dX5_eventsAt_37 ?_
        refine rb_istore_n X (pc := 38) dX5_eventsAt_38 rfl (by decide) rfl rfl ?_
        refine rb_iinc X (pc := 39) dX5_eventsAt_39 rfl (sp_inc _) (by decide) rfl rfl ?_
        refine rb_goto X (pc := 42) (tgt := 4) dX5_eventsAt_42 (by decide) ?_
        exact sp_go (by first | (simp [sp_evs, sp_fold_s, *]; done) | (simp [sp_evs, sp_fold_s, *]; rfl)) rfl (ih (i + 1) (by omega) (by omega))
set_option maxRecDepth 100000 in
set_option maxHeartbeats 1000000 in
theorem qX5_eventsAt {G : rb_G} {h : rb_H} {T : rb_T} (hn : T 4 0 = nI (sp_n T)) (hn10 : sp_n T ≤ 10) (p : Int32) : rb_M G 2 yX5_eventsAt cX5_eventsAt 4 (some .int) [.ref (rb_ad G 9 0), .int p] (ms h T) (rb_F (some (.int (sp_evs T p (sp_n T)))) (ms h T)) := by
  refine rb_meth (L := [.ref (rb_ad G 9 0), .int p, .null, .null]) (by decide) (Nat.le_of_ble_eq_true rfl) rfl (fun Z X Y => ?_)
  have X : rb_CX Z G cX5_eventsAt 4 RX5 2 := X
  refine rb_iconst (v := 0) X (pc := 0) dX5_eventsAt_0 (by decide) ?_
  refine rb_istore_n X (pc := 1) dX5_eventsAt_1 rfl (by decide) rfl rfl ?_
  refine rb_iconst (v := 0) X (pc := 2) dX5_eventsAt_2 (by decide) ?_
  refine rb_istore_n X (pc := 3) dX5_eventsAt_3 rfl (by decide) rfl rfl ?_
  exact sp_go rfl rfl (lpX5_eventsAt_4 hn hn10 X Y (sp_n T + 1) 0 (by omega) (by omega))
set_option maxRecDepth 100000 in
set_option maxHeartbeats 1000000 in
theorem lpX5_eatenAt_4 {Z : rb_Z} {G : rb_G} {h : rb_H} {T : rb_T} (hn : T 4 0 = nI (sp_n T)) (hn10 : sp_n T ≤ 10) {p : Int32} (X : rb_CX Z G cX5_eatenAt 4 RX5 3) (Y : rb_RT Z G (some .int) (rb_F (some (.int (sp_eat T p (sp_n T)))) (ms h T))) : ∀ fu : Nat, ∀ i : Nat, i ≤ sp_n T → sp_n T + 1 ≤ i + fu → rb_WP Z G 4 4 [.ref (rb_ad G 9 0), .int p, .int (sp_eat T p i), .int (nI i)] [] (ms h T) := by
  intro fu
  induction fu with
  | zero => intro i hi hf; omega
  | succ fu ih =>
    intro i hi hf
    refine rb_iload_n X (pc := 4) dX5_eatenAt_4 rfl rfl ?_
    refine rb_aload_n X (pc := 5) dX5_eatenAt_5 rfl rfl ?_
    refine rc_getR X (pc := 6) fX5_7 rb_ob9 rfl dX5_eatenAt_6 ?_
    refine rb_iconst (v := 0) X (pc := 9) dX5_eatenAt_9 (by decide) ?_
    refine rc_ialdv X (pc := 10) 0 rb_ar9_0 ms_0 rfl (by decide) dX5_eatenAt_10 ?_
    refine rb_icmp_ge X (pc := 11) (tgt := 42) dX5_eatenAt_11 (by decide) (fun c11 => ?_) (fun c11 => ?_)
    · have hi2 := (sp_geI hn (by omega) (by omega)).mp c11
      obtain rfl : i = sp_n T := by omega
      refine rb_iload_n X (pc := 42) dX5_eatenAt_42 rfl rfl ?_
      refine rb_iret (S := []) X (pc := 43) Y dX5_eatenAt_43 ?_
      exact ⟨rfl, rfl⟩
    · have hi2 : i < sp_n T := Nat.lt_of_not_le (fun z => c11 ((sp_geI hn (by omega) (by omega)).mpr z))
      refine rb_iload_n X (pc := 14) dX5_eatenAt_14 rfl rfl ?_
      refine rb_aload_n X (pc := 15) dX5_eatenAt_15 rfl rfl ?_
      refine rb_iload_n X (pc := 16) dX5_eatenAt_16 rfl rfl ?_
      refine rb_iconst (v := 4) X (pc := 17) dX5_eatenAt_17 (by decide) ?_
      refine rc_callVi X (pc := 18) cvX5_its mX5_78 rb_ob9 (qI4 (by omega)) (by decide) rfl rfl (Nat.le_of_ble_eq_true rfl) dX5_eatenAt_18 ?_
      refine rb_iload_n X (pc := 21) dX5_eatenAt_21 rfl rfl ?_
      refine rb_icmp_ne X (pc := 22) (tgt := 33) dX5_eatenAt_22 (by decide) (fun c22 => ?_) (fun c22 => ?_)
      · refine rb_iconst (v := 0) X (pc := 33) dX5_eatenAt_33 (by decide) ?_
        refine rb_iadd X (pc := 34) dX5_eatenAt_34 ?_
        refine rb_istore_n X (pc := 35) dX5_eatenAt_35 rfl (by decide) rfl rfl ?_
        refine rb_iinc X (pc := 36) dX5_eatenAt_36 rfl (sp_inc _) (by decide) rfl rfl ?_
        refine rb_goto X (pc := 39) (tgt := 4) dX5_eatenAt_39 (by decide) ?_
        exact sp_go (by first | (simp [sp_eat, sp_fold_s, *]; done) | (simp [sp_eat, sp_fold_s, *]; rfl)) rfl (ih (i + 1) (by omega) (by omega))
      · refine rb_aload_n X (pc := 25) dX5_eatenAt_25 rfl rfl ?_
        refine rb_iload_n X (pc := 26) dX5_eatenAt_26 rfl rfl ?_
        refine rc_callVi X (pc := 27) cvX5_eats mX5_81 rb_ob9 (qX5_eats (by omega)) (by decide) rfl rfl (Nat.le_of_ble_eq_true rfl) dX5_eatenAt_27 ?_
        refine rb_goto X (pc := 30) (tgt := 34) dX5_eatenAt_30 (by decide) ?_
        refine rb_iadd X (pc := 34) dX5_eatenAt_34 ?_
        refine rb_istore_n X (pc := 35) dX5_eatenAt_35 rfl (by decide) rfl rfl ?_
        refine rb_iinc X (pc := 36) dX5_eatenAt_36 rfl (sp_inc _) (by decide) rfl rfl ?_
        refine rb_goto X (pc := 39) (tgt := 4) dX5_eatenAt_39 (by decide) ?_
        exact sp_go (by first | (simp [sp_eat, sp_fold_s, *]; done) | (simp [sp_eat, sp_fold_s, *]; rfl)) rfl (ih (i + 1) (by omega) (by omega))
set_option maxRecDepth 100000 in
set_option maxHeartbeats 1000000 in
theorem qX5_eatenAt {G : rb_G} {h : rb_H} {T : rb_T} (hn : T 4 0 = nI (sp_n T)) (hn10 : sp_n T ≤ 10) (p : Int32) : rb_M G 3 yX5_eatenAt cX5_eatenAt 4 (some .int) [.ref (rb_ad G 9 0), .int p] (ms h T) (rb_F (some (.int (sp_eat T p (sp_n T)))) (ms h T)) := by
  refine rb_meth (L := [.ref (rb_ad G 9 0), .int p, .null, .null]) (by decide) (Nat.le_of_ble_eq_true rfl) rfl (fun Z X Y => ?_)
  have X : rb_CX Z G cX5_eatenAt 4 RX5 3 := X
  refine rb_iconst (v := 0) X (pc := 0) dX5_eatenAt_0 (by decide) ?_
  refine rb_istore_n X (pc := 1) dX5_eatenAt_1 rfl (by decide) rfl rfl ?_
  refine rb_iconst (v := 0) X (pc := 2) dX5_eatenAt_2 (by decide) ?_
  refine rb_istore_n X (pc := 3) dX5_eatenAt_3 rfl (by decide) rfl rfl ?_
  exact sp_go rfl rfl (lpX5_eatenAt_4 hn hn10 X Y (sp_n T + 1) 0 (by omega) (by omega))
set_option maxRecDepth 100000 in
set_option maxHeartbeats 1000000 in
theorem lpX5_lodgersOf_5 {Z : rb_Z} {G : rb_G} {h : rb_H} {T : rb_T} (hn : T 4 0 = nI (sp_n T)) (hn10 : sp_n T ≤ 10) {p e : Int32} (X : rb_CX Z G cX5_lodgersOf 5 RX5 2) (Y : rb_RT Z G (some .int) (rb_F (some (.int (sp_lo T p e (sp_n T)))) (ms h T))) : ∀ fu : Nat, ∀ i : Nat, i ≤ sp_n T → sp_n T + 1 ≤ i + fu → rb_WP Z G 5 5 [.ref (rb_ad G 9 0), .int p, .int e, .int (sp_lo T p e i), .int (nI i)] [] (ms h T) := by
  intro fu
  induction fu with
  | zero => intro i hi hf; omega
  | succ fu ih =>
    intro i hi hf
    refine rb_iload X (pc := 5) dX5_lodgersOf_5 rfl ?_
    refine rb_aload_n X (pc := 7) dX5_lodgersOf_7 rfl rfl ?_
    refine rc_getR X (pc := 8) fX5_7 rb_ob9 rfl dX5_lodgersOf_8 ?_
    refine rb_iconst (v := 0) X (pc := 11) dX5_lodgersOf_11 (by decide) ?_
    refine rc_ialdv X (pc := 12) 0 rb_ar9_0 ms_0 rfl (by decide) dX5_lodgersOf_12 ?_
    refine rb_icmp_ge X (pc := 13) (tgt := 55) dX5_lodgersOf_13 (by decide) (fun c13 => ?_) (fun c13 => ?_)
    · have hi2 := (sp_geI hn (by omega) (by omega)).mp c13
      obtain rfl : i = sp_n T := by omega
      refine rb_iload_n X (pc := 55) dX5_lodgersOf_55 rfl rfl ?_
      refine rb_iret (S := []) X (pc := 56) Y dX5_lodgersOf_56 ?_
      exact ⟨rfl, rfl⟩
    · have hi2 : i < sp_n T := Nat.lt_of_not_le (fun z => c13 ((sp_geI hn (by omega) (by omega)).mpr z))
      refine rb_iload_n X (pc := 16) dX5_lodgersOf_16 rfl rfl ?_
      refine rb_aload_n X (pc := 17) dX5_lodgersOf_17 rfl rfl ?_
      refine rb_iload X (pc := 18) dX5_lodgersOf_18 rfl ?_
      refine rb_iconst (v := 4) X (pc := 20) dX5_lodgersOf_20 (by decide) ?_
      refine rc_callVi X (pc := 21) cvX5_its mX5_78 rb_ob9 (qI4 (by omega)) (by decide) rfl rfl (Nat.le_of_ble_eq_true rfl) dX5_lodgersOf_21 ?_
      refine rb_iload_n X (pc := 24) dX5_lodgersOf_24 rfl rfl ?_
      refine rb_icmp_ne X (pc := 25) (tgt := 46) dX5_lodgersOf_25 (by decide) (fun c25 => ?_) (fun c25 => ?_)
      · refine rb_iconst (v := 0) X (pc := 46) dX5_lodgersOf_46 (by decide) ?_
        refine rb_ior X (pc := 47) dX5_lodgersOf_47 ?_
        refine rb_istore_n X (pc := 48) dX5_lodgersOf_48 rfl (by decide) rfl rfl ?_
        refine rb_iinc X (pc := 49) dX5_lodgersOf_49 rfl (sp_inc _) (by decide) rfl rfl ?_
        refine rb_goto X (pc := 52) (tgt := 5) dX5_lodgersOf_52 (by decide) ?_
        exact sp_go (by first | (simp [sp_lo, mk_s, *]; done) | (simp [sp_lo, mk_s, *]; rfl)) rfl (ih (i + 1) (by omega) (by omega))
      · refine rb_aload_n X (pc := 28) dX5_lodgersOf_28 rfl rfl ?_
        refine rb_iload X (pc := 29) dX5_lodgersOf_29 rfl ?_
        refine rb_iconst (v := 1) X (pc := 31) dX5_lodgersOf_31 (by decide) ?_
        refine rc_callVi X (pc := 32) cvX5_its mX5_78 rb_ob9 (qI1 (by omega)) (by decide) rfl rfl (Nat.le_of_ble_eq_true rfl) dX5_lodgersOf_32 ?_
        refine rb_iload_n X (pc := 35) dX5_lodgersOf_35 rfl rfl ?_
        refine rb_icmp_ne X (pc := 36) (tgt := 46) dX5_lodgersOf_36 (by decide) (fun c36 => ?_) (fun c36 => ?_)
        · refine rb_iconst (v := 0) X (pc := 46) dX5_lodgersOf_46 (by decide) ?_
          refine rb_ior X (pc := 47) dX5_lodgersOf_47 ?_
          refine rb_istore_n X (pc := 48) dX5_lodgersOf_48 rfl (by decide) rfl rfl ?_
          refine rb_iinc X (pc := 49) dX5_lodgersOf_49 rfl (sp_inc _) (by decide) rfl rfl ?_
          refine rb_goto X (pc := 52) (tgt := 5) dX5_lodgersOf_52 (by decide) ?_
          exact sp_go (by first | (simp [sp_lo, mk_s, *]; done) | (simp [sp_lo, mk_s, *]; rfl)) rfl (ih (i + 1) (by omega) (by omega))
        · refine rb_iconst (v := 1) X (pc := 39) dX5_lodgersOf_39 (by decide) ?_
          refine rb_iload X (pc := 40) dX5_lodgersOf_40 rfl ?_
          refine rb_ishl X (pc := 42) dX5_lodgersOf_42 ?_
          refine rb_goto X (pc := 43) (tgt := 47) dX5_lodgersOf_43 (by decide) ?_
          refine rb_ior X (pc := 47) dX5_lodgersOf_47 ?_
          refine rb_istore_n X (pc := 48) dX5_lodgersOf_48 rfl (by decide) rfl rfl ?_
          refine rb_iinc X (pc := 49) dX5_lodgersOf_49 rfl (sp_inc _) (by decide) rfl rfl ?_
          refine rb_goto X (pc := 52) (tgt := 5) dX5_lodgersOf_52 (by decide) ?_
          exact sp_go (by first | (simp [sp_lo, mk_s, *]; done) | (simp [sp_lo, mk_s, *]; rfl)) rfl (ih (i + 1) (by omega) (by omega))
set_option maxRecDepth 100000 in
set_option maxHeartbeats 1000000 in
theorem qX5_lodgersOf {G : rb_G} {h : rb_H} {T : rb_T} (hn : T 4 0 = nI (sp_n T)) (hn10 : sp_n T ≤ 10) (p e : Int32) : rb_M G 2 yX5_lodgersOf cX5_lodgersOf 5 (some .int) [.ref (rb_ad G 9 0), .int p, .int e] (ms h T) (rb_F (some (.int (sp_lo T p e (sp_n T)))) (ms h T)) := by
  refine rb_meth (L := [.ref (rb_ad G 9 0), .int p, .int e, .null, .null]) (by decide) (Nat.le_of_ble_eq_true rfl) rfl (fun Z X Y => ?_)
  have X : rb_CX Z G cX5_lodgersOf 5 RX5 2 := X
  refine rb_iconst (v := 0) X (pc := 0) dX5_lodgersOf_0 (by decide) ?_
  refine rb_istore_n X (pc := 1) dX5_lodgersOf_1 rfl (by decide) rfl rfl ?_
  refine rb_iconst (v := 0) X (pc := 2) dX5_lodgersOf_2 (by decide) ?_
  refine rb_istore X (pc := 3) dX5_lodgersOf_3 (by decide) rfl rfl ?_
  exact sp_go rfl rfl (lpX5_lodgersOf_5 hn hn10 X Y (sp_n T + 1) 0 (by omega) (by omega))
set_option maxRecDepth 100000 in
set_option maxHeartbeats 1000000 in
theorem lpX5_ones_4 {Z : rb_Z} {G : rb_G} {h : rb_H} {m0 : Nat} (X : rb_CX Z G cX5_ones 3 RX5 0) (Y : rb_RT Z G (some .int) (rb_F (some (.int (nI (oc m0)))) (h))) : ∀ fu : Nat, ∀ (m c : Nat), m < 1024 → m + 1 ≤ fu → c + oc m = oc m0 → rb_WP Z G 3 4 [.int (nI m0), .int (nI c), .int (nI m)] [] h := by
  intro fu
  induction fu with
  | zero => intro m c hm hf hc; omega
  | succ fu ih =>
    intro m c hm hf hc
    refine rb_iload_n X (pc := 4) dX5_ones_4 rfl rfl ?_
    refine rb_if_eq X (pc := 5) (tgt := 20) dX5_ones_5 (by decide) (fun c5 => ?_) (fun c5 => ?_)
    · have hm0 : m = 0 := (nI_eq (a := m) (b := 0) (by omega) (by omega)).mp c5
      subst hm0
      refine rb_iload_n X (pc := 20) dX5_ones_20 rfl rfl ?_
      refine rb_iret (S := []) X (pc := 21) Y dX5_ones_21 ?_
      exact ⟨by rw [← hc]; rfl, rfl⟩
    · have hm0 : m ≠ 0 := fun z => c5 (by rw [z]; rfl)
      obtain ⟨d1, d2, d3⟩ := oc_dn m hm hm0
      refine rb_iinc X (pc := 8) dX5_ones_8 rfl (sp_inc _) (by decide) rfl rfl ?_
      refine rb_iload_n X (pc := 11) dX5_ones_11 rfl rfl ?_
      refine rb_iload_n X (pc := 12) dX5_ones_12 rfl rfl ?_
      refine rb_iconst (v := 1) X (pc := 13) dX5_ones_13 (by decide) ?_
      refine rb_isub X (pc := 14) dX5_ones_14 ?_
      refine rb_iand X (pc := 15) dX5_ones_15 ?_
      refine rb_istore_n X (pc := 16) dX5_ones_16 rfl (by decide) rfl rfl ?_
      refine rb_goto X (pc := 17) (tgt := 4) dX5_ones_17 (by decide) ?_
      exact sp_go (by rw [d1]; rfl) rfl (ih (m &&& (m - 1)) (c + 1) (by omega) (by omega) (by omega))
set_option maxRecDepth 100000 in
set_option maxHeartbeats 1000000 in
theorem qX5_ones {G : rb_G} {h : rb_H} {m : Nat} (hm : m < 1024) : rb_M G 0 yX5_ones cX5_ones 3 (some .int) [.int (nI m)] (h) (rb_F (some (.int (nI (oc m)))) (h)) := by
  refine rb_meth (L := [.int (nI m), .null, .null]) (by decide) (Nat.le_of_ble_eq_true rfl) rfl (fun Z X Y => ?_)
  have X : rb_CX Z G cX5_ones 3 RX5 0 := X
  refine rb_iconst (v := 0) X (pc := 0) dX5_ones_0 (by decide) ?_
  refine rb_istore_n X (pc := 1) dX5_ones_1 rfl (by decide) rfl rfl ?_
  refine rb_iload_n X (pc := 2) dX5_ones_2 rfl rfl ?_
  refine rb_istore_n X (pc := 3) dX5_ones_3 rfl (by decide) rfl rfl ?_
  exact sp_go rfl rfl (lpX5_ones_4 X Y (m + 1) m 0 hm (by omega) (by omega))
theorem qOm {G : rb_G} {h : rb_H} {P : Nat → Bool} {n : Nat} (hn : n ≤ 10) : rb_M G 0 yX5_ones cX5_ones 3 (some .int) [.int (mk P n)] h (rb_F (some (.int (nI (fb_ct P n)))) (h)) := by
  obtain ⟨e1, e2⟩ := mk_N (P := P) n hn
  have h1 := mkN_lt (P := P) n
  have h2 : 2 ^ n ≤ 2 ^ 10 := Nat.pow_le_pow_right (by omega) hn
  rw [e1, ← e2]
  exact qX5_ones (by omega)
theorem qOt {G : rb_G} {h : rb_H} {T : rb_T} {p : Int32} (hn10 : sp_n T ≤ 10) : rb_M G 0 yX5_ones cX5_ones 3 (some .int) [.int (sp_those T p (sp_n T))] h (rb_F (some (.int (nI (fb_ct (fun r => decide (T 9 r = p)) (sp_n T))))) (h)) := by
  rw [those_mk]; exact qOm hn10
theorem qOc {G : rb_G} {h : rb_H} {T : rb_T} {q : Nat} (hn10 : sp_n T ≤ 10) (hq : q < 8) : rb_M G 0 yX5_ones cX5_ones 3 (some .int) [.int (sp_those T (nI q) (sp_n T))] h (rb_F (some (.int (sp_cn T q))) (h)) := by
  have e := qOt (G := G) (h := h) (p := nI q) hn10
  rw [show sp_cn T q = nI (fb_ct (fun r => decide (T 9 r = nI q)) (sp_n T)) from if_pos hq]
  exact e
theorem qOl {G : rb_G} {h : rb_H} {T : rb_T} {q e : Nat} (hn10 : sp_n T ≤ 10) : rb_M G 0 yX5_ones cX5_ones 3 (some .int) [.int (sp_lo T (nI q) (nI e) (sp_n T))] h (rb_F (some (.int (nI (sp_pc T q e (sp_n T))))) (h)) := qOm hn10
set_option maxRecDepth 100000 in
set_option maxHeartbeats 1000000 in
theorem qX5_isFree {G : rb_G} {h : rb_H} {T : rb_T} (hn : T 4 0 = nI (sp_n T)) (hn10 : sp_n T ≤ 10) {q : Nat} (hq : q < 8) : rb_M G 3 yX5_isFree cX5_isFree 2 (some .boolean) [.ref (rb_ad G 9 0), .int (nI q)] (ms h T) (rb_F (some (.int (if sp_free T q then 1 else 0))) (ms h T)) := by
  refine rb_meth (L := [.ref (rb_ad G 9 0), .int (nI q)]) (by decide) (Nat.le_of_ble_eq_true rfl) rfl (fun Z X Y => ?_)
  have X : rb_CX Z G cX5_isFree 2 RX5 3 := X
  refine rb_aload_n X (pc := 0) dX5_isFree_0 rfl rfl ?_
  refine rb_iload_n X (pc := 1) dX5_isFree_1 rfl rfl ?_
  refine rc_callVi X (pc := 2) cvX5_thoseAt mX5_87 rb_ob9 (qX5_thoseAt hn hn10 _) (by decide) rfl rfl (Nat.le_of_ble_eq_true rfl) dX5_isFree_2 ?_
  refine rc_callSi X (pc := 5) cvX5_ones mX5_122 (qOc hn10 hq) (by decide) rfl rfl (Nat.le_of_ble_eq_true rfl) dX5_isFree_5 ?_
  refine rb_aload_n X (pc := 8) dX5_isFree_8 rfl rfl ?_
  refine rb_iload_n X (pc := 9) dX5_isFree_9 rfl rfl ?_
  refine rb_iconst (v := 0) X (pc := 10) dX5_isFree_10 (by decide) ?_
  refine rc_callVi X (pc := 11) cvX5_has mX5_84 rb_ob9 (qH0 (by omega)) (by decide) rfl rfl (Nat.le_of_ble_eq_true rfl) dX5_isFree_11 ?_
  refine rb_icmp_ge X (pc := 14) (tgt := 21) dX5_isFree_14 (by decide) (fun c14 => ?_) (fun c14 => ?_)
  · have c14 := Int32.not_lt.mpr c14
    refine rb_iconst (v := 0) X (pc := 21) dX5_isFree_21 (by decide) ?_
    refine rb_zret (S := []) X (pc := 22) Y dX5_isFree_22 rfl ?_
    exact ⟨by simp [sp_free, *], rfl⟩
  · have c14 := Int32.not_le.mp c14
    refine rb_iconst (v := 1) X (pc := 17) dX5_isFree_17 (by decide) ?_
    refine rb_goto X (pc := 18) (tgt := 22) dX5_isFree_18 (by decide) ?_
    refine rb_zret (S := []) X (pc := 22) Y dX5_isFree_22 rfl ?_
    exact ⟨by simp [sp_free, *], rfl⟩
set_option maxRecDepth 100000 in
set_option maxHeartbeats 1000000 in
theorem qX5_isTaken {G : rb_G} {h : rb_H} {T : rb_T} (hn : T 4 0 = nI (sp_n T)) (hn10 : sp_n T ≤ 10) {q r : Nat} (hq : q < 8) (hr : r < 10) : rb_M G 4 yX5_isTaken cX5_isTaken 3 (some .boolean) [.ref (rb_ad G 9 0), .int (nI q), .int (nI r)] (ms h T) (rb_F (some (.int (if sp_tk T q (sp_nR T r) then 1 else 0))) (ms h T)) := by
  refine rb_meth (L := [.ref (rb_ad G 9 0), .int (nI q), .int (nI r)]) (by decide) (Nat.le_of_ble_eq_true rfl) rfl (fun Z X Y => ?_)
  have X : rb_CX Z G cX5_isTaken 3 RX5 4 := X
  refine rb_aload_n X (pc := 0) dX5_isTaken_0 rfl rfl ?_
  refine rb_iload_n X (pc := 1) dX5_isTaken_1 rfl rfl ?_
  refine rc_callVi X (pc := 2) cvX5_isFree mX5_125 rb_ob9 (qX5_isFree hn hn10 (by omega)) (by decide) rfl rfl (Nat.le_of_ble_eq_true rfl) dX5_isTaken_2 ?_
  refine rb_if_eq X (pc := 5) (tgt := 26) dX5_isTaken_5 (by decide) (fun c5 => ?_) (fun c5 => ?_)
  · (try simp only [sp_b0, Classical.not_not] at c5)
    refine rb_iconst (v := 0) X (pc := 26) dX5_isTaken_26 (by decide) ?_
    refine rb_zret (S := []) X (pc := 27) Y dX5_isTaken_27 rfl ?_
    exact ⟨by simp [sp_tk, *], rfl⟩
  · (try simp only [sp_b0, Classical.not_not] at c5)
    refine rb_aload_n X (pc := 8) dX5_isTaken_8 rfl rfl ?_
    refine rb_iload_n X (pc := 9) dX5_isTaken_9 rfl rfl ?_
    refine rb_iconst (v := 2) X (pc := 10) dX5_isTaken_10 (by decide) ?_
    refine rc_callVi X (pc := 11) cvX5_has mX5_84 rb_ob9 (qH2 (by omega)) (by decide) rfl rfl (Nat.le_of_ble_eq_true rfl) dX5_isTaken_11 ?_
    refine rb_aload_n X (pc := 14) dX5_isTaken_14 rfl rfl ?_
    refine rb_iload_n X (pc := 15) dX5_isTaken_15 rfl rfl ?_
    refine rc_callVi X (pc := 16) cvX5_needs mX5_109 rb_ob9 (qX5_needs (by omega)) (by decide) rfl rfl (Nat.le_of_ble_eq_true rfl) dX5_isTaken_16 ?_
    refine rb_icmp_lt X (pc := 19) (tgt := 26) dX5_isTaken_19 (by decide) (fun c19 => ?_) (fun c19 => ?_)
    · have c19 := Int32.not_le.mpr c19
      refine rb_iconst (v := 0) X (pc := 26) dX5_isTaken_26 (by decide) ?_
      refine rb_zret (S := []) X (pc := 27) Y dX5_isTaken_27 rfl ?_
      exact ⟨by simp [sp_tk, *], rfl⟩
    · have c19 := Int32.not_lt.mp c19
      refine rb_iconst (v := 1) X (pc := 22) dX5_isTaken_22 (by decide) ?_
      refine rb_goto X (pc := 23) (tgt := 27) dX5_isTaken_23 (by decide) ?_
      refine rb_zret (S := []) X (pc := 27) Y dX5_isTaken_27 rfl ?_
      exact ⟨by simp [sp_tk, *], rfl⟩
set_option maxRecDepth 100000 in
set_option maxHeartbeats 1000000 in
theorem qX5_isTrue {G : rb_G} {h : rb_H} {T : rb_T} {e : Nat} (he : e < 16) : rb_M G 0 yX5_isTrue cX5_isTrue 2 (some .boolean) [.ref (rb_ad G 9 0), .int (nI e)] (ms h T) (rb_F (some (.int (if sp_tr T (nI e) then 1 else 0))) (ms h T)) := by
  refine rb_meth (L := [.ref (rb_ad G 9 0), .int (nI e)]) (by decide) (Nat.le_of_ble_eq_true rfl) rfl (fun Z X Y => ?_)
  have X : rb_CX Z G cX5_isTrue 2 RX5 0 := X
  refine rb_aload_n X (pc := 0) dX5_isTrue_0 rfl rfl ?_
  refine rc_getR X (pc := 1) fX5_7 rb_ob9 rfl dX5_isTrue_1 ?_
  refine rb_iconst (v := 2) X (pc := 4) dX5_isTrue_4 (by decide) ?_
  refine rc_ialdv X (pc := 5) 2 rb_ar9_0 ms_2 rfl (by decide) dX5_isTrue_5 ?_
  refine rb_iload_n X (pc := 6) dX5_isTrue_6 rfl rfl ?_
  refine rb_ishr X (pc := 7) dX5_isTrue_7 ?_
  refine rb_iconst (v := 1) X (pc := 8) dX5_isTrue_8 (by decide) ?_
  refine rb_iand X (pc := 9) dX5_isTrue_9 ?_
  refine rb_iconst (v := 1) X (pc := 10) dX5_isTrue_10 (by decide) ?_
  refine rb_icmp_ne X (pc := 11) (tgt := 18) dX5_isTrue_11 (by decide) (fun c11 => ?_) (fun c11 => ?_)
  · have c12 : ¬ sp_tr T (nI e) := fun z => c11 ((sp_shr1 (by omega)).mpr ((sp_trB (by omega)).mp z))
    refine rb_iconst (v := 0) X (pc := 18) dX5_isTrue_18 (by decide) ?_
    refine rb_zret (S := []) X (pc := 19) Y dX5_isTrue_19 rfl ?_
    exact ⟨by first | rw [if_pos c12] | rw [if_neg c12], rfl⟩
  · have c11 : ((T 11 0) >>> (nI e &&& 31)) &&& 1 = 1 := by simpa using c11
    have c12 : sp_tr T (nI e) := (sp_trB (by omega)).mpr ((sp_shr1 (by omega)).mp c11)
    refine rb_iconst (v := 1) X (pc := 14) dX5_isTrue_14 (by decide) ?_
    refine rb_goto X (pc := 15) (tgt := 19) dX5_isTrue_15 (by decide) ?_
    refine rb_zret (S := []) X (pc := 19) Y dX5_isTrue_19 rfl ?_
    exact ⟨by first | rw [if_pos c12] | rw [if_neg c12], rfl⟩
set_option maxRecDepth 100000 in
set_option maxHeartbeats 1000000 in
theorem qX5_isUnder {G : rb_G} {h : rb_H} (k t : Int32) : rb_M G 0 yX5_isUnder cX5_isUnder 2 (some .boolean) [.int k, .int t] (h) (rb_F (some (.int (if sp_und k t = true then 1 else 0))) (h)) := by
  refine rb_meth (L := [.int k, .int t]) (by decide) (Nat.le_of_ble_eq_true rfl) rfl (fun Z X Y => ?_)
  have X : rb_CX Z G cX5_isUnder 2 RX5 0 := X
  refine rb_iload_n X (pc := 0) dX5_isUnder_0 rfl rfl ?_
  refine rb_if_eq X (pc := 1) (tgt := 21) dX5_isUnder_1 (by decide) (fun c1 => ?_) (fun c1 => ?_)
  · refine rb_iconst (v := 1) X (pc := 21) dX5_isUnder_21 (by decide) ?_
    refine rb_goto X (pc := 22) (tgt := 26) dX5_isUnder_22 (by decide) ?_
    refine rb_zret (S := []) X (pc := 26) Y dX5_isUnder_26 rfl ?_
    exact ⟨by simp [sp_und, *], rfl⟩
  · refine rb_iload_n X (pc := 4) dX5_isUnder_4 rfl rfl ?_
    refine rb_iload_n X (pc := 5) dX5_isUnder_5 rfl rfl ?_
    refine rb_icmp_eq X (pc := 6) (tgt := 21) dX5_isUnder_6 (by decide) (fun c6 => ?_) (fun c6 => ?_)
    · refine rb_iconst (v := 1) X (pc := 21) dX5_isUnder_21 (by decide) ?_
      refine rb_goto X (pc := 22) (tgt := 26) dX5_isUnder_22 (by decide) ?_
      refine rb_zret (S := []) X (pc := 26) Y dX5_isUnder_26 rfl ?_
      exact ⟨by simp [sp_und, *], rfl⟩
    · refine rb_iload_n X (pc := 9) dX5_isUnder_9 rfl rfl ?_
      refine rb_iconst (v := 3) X (pc := 10) dX5_isUnder_10 (by decide) ?_
      refine rb_icmp_le X (pc := 11) (tgt := 25) dX5_isUnder_11 (by decide) (fun c11 => ?_) (fun c11 => ?_)
      · have c11 := Int32.not_lt.mpr c11
        refine rb_iconst (v := 0) X (pc := 25) dX5_isUnder_25 (by decide) ?_
        refine rb_zret (S := []) X (pc := 26) Y dX5_isUnder_26 rfl ?_
        exact ⟨by simp [sp_und, *], rfl⟩
      · have c11 := Int32.not_le.mp c11
        refine rb_iload_n X (pc := 14) dX5_isUnder_14 rfl rfl ?_
        refine rb_iconst (v := 3) X (pc := 15) dX5_isUnder_15 (by decide) ?_
        refine rb_isub X (pc := 16) dX5_isUnder_16 ?_
        refine rb_iload_n X (pc := 17) dX5_isUnder_17 rfl rfl ?_
        refine rb_icmp_ne X (pc := 18) (tgt := 25) dX5_isUnder_18 (by decide) (fun c18 => ?_) (fun c18 => ?_)
        · refine rb_iconst (v := 0) X (pc := 25) dX5_isUnder_25 (by decide) ?_
          refine rb_zret (S := []) X (pc := 26) Y dX5_isUnder_26 rfl ?_
          exact ⟨by simp [sp_und, *], rfl⟩
        · refine rb_iconst (v := 1) X (pc := 21) dX5_isUnder_21 (by decide) ?_
          refine rb_goto X (pc := 22) (tgt := 26) dX5_isUnder_22 (by decide) ?_
          refine rb_zret (S := []) X (pc := 26) Y dX5_isUnder_26 rfl ?_
          exact ⟨by simp [sp_und, *], rfl⟩
set_option maxRecDepth 100000 in
set_option maxHeartbeats 1000000 in
theorem qX5_heldTo {G : rb_G} {h : rb_H} (v c : Int32) : rb_M G 0 yX5_heldTo cX5_heldTo 2 (some .int) [.int v, .int c] (h) (rb_F (some (.int (sp_min v c))) (h)) := by
  refine rb_meth (L := [.int v, .int c]) (by decide) (Nat.le_of_ble_eq_true rfl) rfl (fun Z X Y => ?_)
  have X : rb_CX Z G cX5_heldTo 2 RX5 0 := X
  refine rb_iload_n X (pc := 0) dX5_heldTo_0 rfl rfl ?_
  refine rb_iload_n X (pc := 1) dX5_heldTo_1 rfl rfl ?_
  refine rb_icmp_le X (pc := 2) (tgt := 9) dX5_heldTo_2 (by decide) (fun c2 => ?_) (fun c2 => ?_)
  · refine rb_iload_n X (pc := 9) dX5_heldTo_9 rfl rfl ?_
    refine rb_iret (S := []) X (pc := 10) Y dX5_heldTo_10 ?_
    refine ⟨?_, rfl⟩
    unfold sp_min
    first
    | (rw [if_neg (fun z => Int32.lt_irrefl (Int32.lt_trans z (Int32.not_le.mp c2)))])
    | (rcases Int32.lt_or_eq_of_le c2 with z | z
       · rw [if_pos z]
       · rw [z, if_neg Int32.lt_irrefl])
  · refine rb_iload_n X (pc := 5) dX5_heldTo_5 rfl rfl ?_
    refine rb_goto X (pc := 6) (tgt := 10) dX5_heldTo_6 (by decide) ?_
    refine rb_iret (S := []) X (pc := 10) Y dX5_heldTo_10 ?_
    refine ⟨?_, rfl⟩
    unfold sp_min
    first
    | (rw [if_neg (fun z => Int32.lt_irrefl (Int32.lt_trans z (Int32.not_le.mp c2)))])
    | (rcases Int32.lt_or_eq_of_le c2 with z | z
       · rw [if_pos z]
       · rw [z, if_neg Int32.lt_irrefl])
set_option maxRecDepth 100000 in
set_option maxHeartbeats 1000000 in
theorem lpX5_hostOf_4 {Z : rb_Z} {G : rb_G} {h : rb_H} {T : rb_T} (hn : T 4 0 = nI (sp_n T)) (hn10 : sp_n T ≤ 10) {r : Nat} (hr : r < 10) (X : rb_CX Z G cX5_hostOf 4 RX5 5) (Y : rb_RT Z G (some .int) (rb_F (some (.int (sp_hostF T (sp_nR T r) 8))) (ms h T))) : ∀ fu : Nat, ∀ i : Nat, i ≤ 8 → 8 + 1 ≤ i + fu → rb_WP Z G 4 4 [.ref (rb_ad G 9 0), .int (nI r), .int (sp_hostF T (sp_nR T r) i), .int (nI i)] [] (ms h T) := by
  intro fu
  induction fu with
  | zero => intro i hi hf; omega
  | succ fu ih =>
    intro i hi hf
    refine rb_iload_n X (pc := 4) dX5_hostOf_4 rfl rfl ?_
    refine rb_bipush (v := 8) X (pc := 5) dX5_hostOf_5 (by decide) ?_
    refine rb_icmp_ge X (pc := 7) (tgt := 51) dX5_hostOf_7 (by decide) (fun c7 => ?_) (fun c7 => ?_)
    · have hi2 := (sp_geI (n := 8) rfl (by omega) (by omega)).mp c7
      obtain rfl : i = 8 := by omega
      refine rb_iload_n X (pc := 51) dX5_hostOf_51 rfl rfl ?_
      refine rb_iret (S := []) X (pc := 52) Y dX5_hostOf_52 ?_
      exact ⟨rfl, rfl⟩
    · have hi2 : i < 8 := Nat.lt_of_not_le (fun z => c7 ((sp_geI (n := 8) rfl (by omega) (by omega)).mpr z))
      refine rb_aload_n X (pc := 10) dX5_hostOf_10 rfl rfl ?_
      refine rb_iload_n X (pc := 11) dX5_hostOf_11 rfl rfl ?_
      refine rb_iload_n X (pc := 12) dX5_hostOf_12 rfl rfl ?_
      refine rc_callVi X (pc := 13) cvX5_isTaken mX5_128 rb_ob9 (qX5_isTaken hn hn10 (by omega) (by omega)) (by decide) rfl rfl (Nat.le_of_ble_eq_true rfl) dX5_hostOf_13 ?_
      refine rb_if_eq X (pc := 16) (tgt := 43) dX5_hostOf_16 (by decide) (fun c16 => ?_) (fun c16 => ?_)
      · (try simp only [sp_b0, Classical.not_not] at c16)
        refine rb_iload_n X (pc := 43) dX5_hostOf_43 rfl rfl ?_
        refine rb_istore_n X (pc := 44) dX5_hostOf_44 rfl (by decide) rfl rfl ?_
        refine rb_iinc X (pc := 45) dX5_hostOf_45 rfl (sp_inc _) (by decide) rfl rfl ?_
        refine rb_goto X (pc := 48) (tgt := 4) dX5_hostOf_48 (by decide) ?_
        refine sp_go ?_ rfl (ih (i + 1) (by omega) (by omega))
        first
        | simp [sp_hostF_s, c16, c21, c36b]
        | simp [sp_hostF_s, c16, c21]
        | simp [sp_hostF_s, c16]
      · (try simp only [sp_b0, Classical.not_not] at c16)
        refine rb_iload_n X (pc := 19) dX5_hostOf_19 rfl rfl ?_
        refine rb_iconst (v := (-1)) X (pc := 20) dX5_hostOf_20 (by decide) ?_
        refine rb_icmp_eq X (pc := 21) (tgt := 39) dX5_hostOf_21 (by decide) (fun c21 => ?_) (fun c21 => ?_)
        · refine rb_iload_n X (pc := 39) dX5_hostOf_39 rfl rfl ?_
          refine rb_goto X (pc := 40) (tgt := 44) dX5_hostOf_40 (by decide) ?_
          refine rb_istore_n X (pc := 44) dX5_hostOf_44 rfl (by decide) rfl rfl ?_
          refine rb_iinc X (pc := 45) dX5_hostOf_45 rfl (sp_inc _) (by decide) rfl rfl ?_
          refine rb_goto X (pc := 48) (tgt := 4) dX5_hostOf_48 (by decide) ?_
          refine sp_go ?_ rfl (ih (i + 1) (by omega) (by omega))
          first
          | simp [sp_hostF_s, c16, c21, c36b]
          | simp [sp_hostF_s, c16, c21]
          | simp [sp_hostF_s, c16]
        · obtain ⟨p, hp1, hp⟩ : ∃ p, p < i ∧ sp_hostF T (sp_nR T r) i = nI p := (sp_hostF_ok T (sp_nR T r) i (by omega)).resolve_left c21
          refine rb_aload_n X (pc := 24) dX5_hostOf_24 rfl rfl ?_
          refine rb_iload_n X (pc := 25) dX5_hostOf_25 rfl rfl ?_
          refine rb_iconst (v := 2) X (pc := 26) dX5_hostOf_26 (by decide) ?_
          refine rc_callVi X (pc := 27) cvX5_has mX5_84 rb_ob9 (qH2 (by omega)) (by decide) rfl rfl (Nat.le_of_ble_eq_true rfl) dX5_hostOf_27 ?_
          refine rb_aload_n X (pc := 30) dX5_hostOf_30 rfl rfl ?_
          refine rb_iload_n X (pc := 31) dX5_hostOf_31 rfl rfl ?_
          refine rb_iconst (v := 2) X (pc := 32) dX5_hostOf_32 (by decide) ?_
          refine rc_callVi X (pc := 33) cvX5_has mX5_84 rb_ob9 (show rb_M G 1 yX5_has cX5_has 3 (some .int) [.ref (rb_ad G 9 0), .int (sp_hostF T (sp_nR T r) i), .int 2] (ms h T) (rb_F (some (.int (T 2 p))) (ms h T)) from by rw [hp]; exact qH2 (by omega)) (by decide) rfl rfl (Nat.le_of_ble_eq_true rfl) dX5_hostOf_33 ?_
          refine rb_icmp_le X (pc := 36) (tgt := 43) dX5_hostOf_36 (by decide) (fun c36 => ?_) (fun c36 => ?_)
          · have c36b : ¬ T 2 (sp_hostF T (sp_nR T r) i).toNatClampNeg < T 2 i := by rw [hp, nI_clamp (by omega)]; exact Int32.not_lt.mpr c36
            refine rb_iload_n X (pc := 43) dX5_hostOf_43 rfl rfl ?_
            refine rb_istore_n X (pc := 44) dX5_hostOf_44 rfl (by decide) rfl rfl ?_
            refine rb_iinc X (pc := 45) dX5_hostOf_45 rfl (sp_inc _) (by decide) rfl rfl ?_
            refine rb_goto X (pc := 48) (tgt := 4) dX5_hostOf_48 (by decide) ?_
            refine sp_go ?_ rfl (ih (i + 1) (by omega) (by omega))
            first
            | simp [sp_hostF_s, c16, c21, c36b]
            | simp [sp_hostF_s, c16, c21]
            | simp [sp_hostF_s, c16]
          · have c36b : T 2 (sp_hostF T (sp_nR T r) i).toNatClampNeg < T 2 i := by rw [hp, nI_clamp (by omega)]; exact Int32.not_le.mp c36
            refine rb_iload_n X (pc := 39) dX5_hostOf_39 rfl rfl ?_
            refine rb_goto X (pc := 40) (tgt := 44) dX5_hostOf_40 (by decide) ?_
            refine rb_istore_n X (pc := 44) dX5_hostOf_44 rfl (by decide) rfl rfl ?_
            refine rb_iinc X (pc := 45) dX5_hostOf_45 rfl (sp_inc _) (by decide) rfl rfl ?_
            refine rb_goto X (pc := 48) (tgt := 4) dX5_hostOf_48 (by decide) ?_
            refine sp_go ?_ rfl (ih (i + 1) (by omega) (by omega))
            first
            | simp [sp_hostF_s, c16, c21, c36b]
            | simp [sp_hostF_s, c16, c21]
            | simp [sp_hostF_s, c16]
set_option maxRecDepth 100000 in
set_option maxHeartbeats 1000000 in
theorem qX5_hostOf {G : rb_G} {h : rb_H} {T : rb_T} (hn : T 4 0 = nI (sp_n T)) (hn10 : sp_n T ≤ 10) {r : Nat} (hr : r < 10) : rb_M G 5 yX5_hostOf cX5_hostOf 4 (some .int) [.ref (rb_ad G 9 0), .int (nI r)] (ms h T) (rb_F (some (.int (sp_hostF T (sp_nR T r) 8))) (ms h T)) := by
  refine rb_meth (L := [.ref (rb_ad G 9 0), .int (nI r), .null, .null]) (by decide) (Nat.le_of_ble_eq_true rfl) rfl (fun Z X Y => ?_)
  have X : rb_CX Z G cX5_hostOf 4 RX5 5 := X
  refine rb_iconst (v := (-1)) X (pc := 0) dX5_hostOf_0 (by decide) ?_
  refine rb_istore_n X (pc := 1) dX5_hostOf_1 rfl (by decide) rfl rfl ?_
  refine rb_iconst (v := 0) X (pc := 2) dX5_hostOf_2 (by decide) ?_
  refine rb_istore_n X (pc := 3) dX5_hostOf_3 rfl (by decide) rfl rfl ?_
  exact sp_go rfl rfl (lpX5_hostOf_4 hn hn10 hr X Y (8 + 1) 0 (by omega) (by omega))
set_option maxRecDepth 100000 in
set_option maxHeartbeats 1000000 in
theorem lpX5_larders_4 {Z : rb_Z} {G : rb_G} {h : rb_H} {T : rb_T}  (X : rb_CX Z G cX5_larders 3 RX5 2) (Y : rb_RT Z G (some .int) (rb_F (some (.int (sp_sum (T 1) 8))) (ms h T))) : ∀ fu : Nat, ∀ i : Nat, i ≤ 8 → 8 + 1 ≤ i + fu → rb_WP Z G 3 4 [.ref (rb_ad G 9 0), .int (sp_sum (T 1) i), .int (nI i)] [] (ms h T) := by
  intro fu
  induction fu with
  | zero => intro i hi hf; omega
  | succ fu ih =>
    intro i hi hf
    refine rb_iload_n X (pc := 4) dX5_larders_4 rfl rfl ?_
    refine rb_bipush (v := 8) X (pc := 5) dX5_larders_5 (by decide) ?_
    refine rb_icmp_ge X (pc := 7) (tgt := 25) dX5_larders_7 (by decide) (fun c7 => ?_) (fun c7 => ?_)
    · have hi2 := (sp_geI (n := 8) rfl (by omega) (by omega)).mp c7
      obtain rfl : i = 8 := by omega
      refine rb_iload_n X (pc := 25) dX5_larders_25 rfl rfl ?_
      refine rb_iret (S := []) X (pc := 26) Y dX5_larders_26 ?_
      exact ⟨rfl, rfl⟩
    · have hi2 : i < 8 := Nat.lt_of_not_le (fun z => c7 ((sp_geI (n := 8) rfl (by omega) (by omega)).mpr z))
      refine rb_iload_n X (pc := 10) dX5_larders_10 rfl rfl ?_
      refine rb_aload_n X (pc := 11) dX5_larders_11 rfl rfl ?_
      refine rb_iload_n X (pc := 12) dX5_larders_12 rfl rfl ?_
      refine rb_iconst (v := 1) X (pc := 13) dX5_larders_13 (by decide) ?_
      refine rc_callVi X (pc := 14) cvX5_has mX5_84 rb_ob9 (qH1 (by omega)) (by decide) rfl rfl (Nat.le_of_ble_eq_true rfl) dX5_larders_14 ?_
      refine rb_iadd X (pc := 17) dX5_larders_17 ?_
      refine rb_istore_n X (pc := 18) dX5_larders_18 rfl (by decide) rfl rfl ?_
      refine rb_iinc X (pc := 19) dX5_larders_19 rfl (sp_inc _) (by decide) rfl rfl ?_
      refine rb_goto X (pc := 22) (tgt := 4) dX5_larders_22 (by decide) ?_
      exact sp_go (by first | (simp [sp_sum, sp_fold_s]; done) | (simp [sp_sum, sp_fold_s]; rfl)) rfl (ih (i + 1) (by omega) (by omega))
set_option maxRecDepth 100000 in
set_option maxHeartbeats 1000000 in
theorem qX5_larders {G : rb_G} {h : rb_H} {T : rb_T}  : rb_M G 2 yX5_larders cX5_larders 3 (some .int) [.ref (rb_ad G 9 0)] (ms h T) (rb_F (some (.int (sp_sum (T 1) 8))) (ms h T)) := by
  refine rb_meth (L := [.ref (rb_ad G 9 0), .null, .null]) (by decide) (Nat.le_of_ble_eq_true rfl) rfl (fun Z X Y => ?_)
  have X : rb_CX Z G cX5_larders 3 RX5 2 := X
  refine rb_iconst (v := 0) X (pc := 0) dX5_larders_0 (by decide) ?_
  refine rb_istore_n X (pc := 1) dX5_larders_1 rfl (by decide) rfl rfl ?_
  refine rb_iconst (v := 0) X (pc := 2) dX5_larders_2 (by decide) ?_
  refine rb_istore_n X (pc := 3) dX5_larders_3 rfl (by decide) rfl rfl ?_
  exact sp_go rfl rfl (lpX5_larders_4  X Y (8 + 1) 0 (by omega) (by omega))
set_option maxRecDepth 100000 in
set_option maxHeartbeats 1000000 in
theorem lpX5_bedsAll_4 {Z : rb_Z} {G : rb_G} {h : rb_H} {T : rb_T}  (X : rb_CX Z G cX5_bedsAll 3 RX5 2) (Y : rb_RT Z G (some .int) (rb_F (some (.int (sp_sum (T 0) 8))) (ms h T))) : ∀ fu : Nat, ∀ i : Nat, i ≤ 8 → 8 + 1 ≤ i + fu → rb_WP Z G 3 4 [.ref (rb_ad G 9 0), .int (sp_sum (T 0) i), .int (nI i)] [] (ms h T) := by
  intro fu
  induction fu with
  | zero => intro i hi hf; omega
  | succ fu ih =>
    intro i hi hf
    refine rb_iload_n X (pc := 4) dX5_bedsAll_4 rfl rfl ?_
    refine rb_bipush (v := 8) X (pc := 5) dX5_bedsAll_5 (by decide) ?_
    refine rb_icmp_ge X (pc := 7) (tgt := 25) dX5_bedsAll_7 (by decide) (fun c7 => ?_) (fun c7 => ?_)
    · have hi2 := (sp_geI (n := 8) rfl (by omega) (by omega)).mp c7
      obtain rfl : i = 8 := by omega
      refine rb_iload_n X (pc := 25) dX5_bedsAll_25 rfl rfl ?_
      refine rb_iret (S := []) X (pc := 26) Y dX5_bedsAll_26 ?_
      exact ⟨rfl, rfl⟩
    · have hi2 : i < 8 := Nat.lt_of_not_le (fun z => c7 ((sp_geI (n := 8) rfl (by omega) (by omega)).mpr z))
      refine rb_iload_n X (pc := 10) dX5_bedsAll_10 rfl rfl ?_
      refine rb_aload_n X (pc := 11) dX5_bedsAll_11 rfl rfl ?_
      refine rb_iload_n X (pc := 12) dX5_bedsAll_12 rfl rfl ?_
      refine rb_iconst (v := 0) X (pc := 13) dX5_bedsAll_13 (by decide) ?_
      refine rc_callVi X (pc := 14) cvX5_has mX5_84 rb_ob9 (qH0 (by omega)) (by decide) rfl rfl (Nat.le_of_ble_eq_true rfl) dX5_bedsAll_14 ?_
      refine rb_iadd X (pc := 17) dX5_bedsAll_17 ?_
      refine rb_istore_n X (pc := 18) dX5_bedsAll_18 rfl (by decide) rfl rfl ?_
      refine rb_iinc X (pc := 19) dX5_bedsAll_19 rfl (sp_inc _) (by decide) rfl rfl ?_
      refine rb_goto X (pc := 22) (tgt := 4) dX5_bedsAll_22 (by decide) ?_
      exact sp_go (by first | (simp [sp_sum, sp_fold_s]; done) | (simp [sp_sum, sp_fold_s]; rfl)) rfl (ih (i + 1) (by omega) (by omega))
set_option maxRecDepth 100000 in
set_option maxHeartbeats 1000000 in
theorem qX5_bedsAll {G : rb_G} {h : rb_H} {T : rb_T}  : rb_M G 2 yX5_bedsAll cX5_bedsAll 3 (some .int) [.ref (rb_ad G 9 0)] (ms h T) (rb_F (some (.int (sp_sum (T 0) 8))) (ms h T)) := by
  refine rb_meth (L := [.ref (rb_ad G 9 0), .null, .null]) (by decide) (Nat.le_of_ble_eq_true rfl) rfl (fun Z X Y => ?_)
  have X : rb_CX Z G cX5_bedsAll 3 RX5 2 := X
  refine rb_iconst (v := 0) X (pc := 0) dX5_bedsAll_0 (by decide) ?_
  refine rb_istore_n X (pc := 1) dX5_bedsAll_1 rfl (by decide) rfl rfl ?_
  refine rb_iconst (v := 0) X (pc := 2) dX5_bedsAll_2 (by decide) ?_
  refine rb_istore_n X (pc := 3) dX5_bedsAll_3 rfl (by decide) rfl rfl ?_
  exact sp_go rfl rfl (lpX5_bedsAll_4  X Y (8 + 1) 0 (by omega) (by omega))
set_option maxRecDepth 100000 in
set_option maxHeartbeats 1000000 in
theorem lpX5_bulks_4 {Z : rb_Z} {G : rb_G} {h : rb_H} {T : rb_T} (hn : T 4 0 = nI (sp_n T)) (hn10 : sp_n T ≤ 10) (X : rb_CX Z G cX5_bulks 3 RX5 2) (Y : rb_RT Z G (some .int) (rb_F (some (.int (sp_bulks T (sp_n T)))) (ms h T))) : ∀ fu : Nat, ∀ i : Nat, i ≤ sp_n T → sp_n T + 1 ≤ i + fu → rb_WP Z G 3 4 [.ref (rb_ad G 9 0), .int (sp_bulks T i), .int (nI i)] [] (ms h T) := by
  intro fu
  induction fu with
  | zero => intro i hi hf; omega
  | succ fu ih =>
    intro i hi hf
    refine rb_iload_n X (pc := 4) dX5_bulks_4 rfl rfl ?_
    refine rb_aload_n X (pc := 5) dX5_bulks_5 rfl rfl ?_
    refine rc_getR X (pc := 6) fX5_7 rb_ob9 rfl dX5_bulks_6 ?_
    refine rb_iconst (v := 0) X (pc := 9) dX5_bulks_9 (by decide) ?_
    refine rc_ialdv X (pc := 10) 0 rb_ar9_0 ms_0 rfl (by decide) dX5_bulks_10 ?_
    refine rb_icmp_ge X (pc := 11) (tgt := 29) dX5_bulks_11 (by decide) (fun c11 => ?_) (fun c11 => ?_)
    · have hi2 := (sp_geI hn (by omega) (by omega)).mp c11
      obtain rfl : i = sp_n T := by omega
      refine rb_iload_n X (pc := 29) dX5_bulks_29 rfl rfl ?_
      refine rb_iret (S := []) X (pc := 30) Y dX5_bulks_30 ?_
      exact ⟨rfl, rfl⟩
    · have hi2 : i < sp_n T := Nat.lt_of_not_le (fun z => c11 ((sp_geI hn (by omega) (by omega)).mpr z))
      refine rb_iload_n X (pc := 14) dX5_bulks_14 rfl rfl ?_
      refine rb_aload_n X (pc := 15) dX5_bulks_15 rfl rfl ?_
      refine rb_iload_n X (pc := 16) dX5_bulks_16 rfl rfl ?_
      refine rb_iconst (v := 2) X (pc := 17) dX5_bulks_17 (by decide) ?_
      refine rc_callVi X (pc := 18) cvX5_its mX5_78 rb_ob9 (qI2 (by omega)) (by decide) rfl rfl (Nat.le_of_ble_eq_true rfl) dX5_bulks_18 ?_
      refine rb_iadd X (pc := 21) dX5_bulks_21 ?_
      refine rb_istore_n X (pc := 22) dX5_bulks_22 rfl (by decide) rfl rfl ?_
      refine rb_iinc X (pc := 23) dX5_bulks_23 rfl (sp_inc _) (by decide) rfl rfl ?_
      refine rb_goto X (pc := 26) (tgt := 4) dX5_bulks_26 (by decide) ?_
      exact sp_go (by first | (simp [sp_bulks, sp_fold_s]; done) | (simp [sp_bulks, sp_fold_s]; rfl)) rfl (ih (i + 1) (by omega) (by omega))
set_option maxRecDepth 100000 in
set_option maxHeartbeats 1000000 in
theorem qX5_bulks {G : rb_G} {h : rb_H} {T : rb_T} (hn : T 4 0 = nI (sp_n T)) (hn10 : sp_n T ≤ 10) : rb_M G 2 yX5_bulks cX5_bulks 3 (some .int) [.ref (rb_ad G 9 0)] (ms h T) (rb_F (some (.int (sp_bulks T (sp_n T)))) (ms h T)) := by
  refine rb_meth (L := [.ref (rb_ad G 9 0), .null, .null]) (by decide) (Nat.le_of_ble_eq_true rfl) rfl (fun Z X Y => ?_)
  have X : rb_CX Z G cX5_bulks 3 RX5 2 := X
  refine rb_iconst (v := 0) X (pc := 0) dX5_bulks_0 (by decide) ?_
  refine rb_istore_n X (pc := 1) dX5_bulks_1 rfl (by decide) rfl rfl ?_
  refine rb_iconst (v := 0) X (pc := 2) dX5_bulks_2 (by decide) ?_
  refine rb_istore_n X (pc := 3) dX5_bulks_3 rfl (by decide) rfl rfl ?_
  exact sp_go rfl rfl (lpX5_bulks_4 hn hn10 X Y (sp_n T + 1) 0 (by omega) (by omega))
set_option maxRecDepth 100000 in
set_option maxHeartbeats 1000000 in
theorem lpX5_eaten_4 {Z : rb_Z} {G : rb_G} {h : rb_H} {T : rb_T} (hn : T 4 0 = nI (sp_n T)) (hn10 : sp_n T ≤ 10) (X : rb_CX Z G cX5_eaten 3 RX5 4) (Y : rb_RT Z G (some .int) (rb_F (some (.int (sp_eatA T 8))) (ms h T))) : ∀ fu : Nat, ∀ i : Nat, i ≤ 8 → 8 + 1 ≤ i + fu → rb_WP Z G 3 4 [.ref (rb_ad G 9 0), .int (sp_eatA T i), .int (nI i)] [] (ms h T) := by
  intro fu
  induction fu with
  | zero => intro i hi hf; omega
  | succ fu ih =>
    intro i hi hf
    refine rb_iload_n X (pc := 4) dX5_eaten_4 rfl rfl ?_
    refine rb_bipush (v := 8) X (pc := 5) dX5_eaten_5 (by decide) ?_
    refine rb_icmp_ge X (pc := 7) (tgt := 24) dX5_eaten_7 (by decide) (fun c7 => ?_) (fun c7 => ?_)
    · have hi2 := (sp_geI (n := 8) rfl (by omega) (by omega)).mp c7
      obtain rfl : i = 8 := by omega
      refine rb_iload_n X (pc := 24) dX5_eaten_24 rfl rfl ?_
      refine rb_iret (S := []) X (pc := 25) Y dX5_eaten_25 ?_
      exact ⟨rfl, rfl⟩
    · have hi2 : i < 8 := Nat.lt_of_not_le (fun z => c7 ((sp_geI (n := 8) rfl (by omega) (by omega)).mpr z))
      refine rb_iload_n X (pc := 10) dX5_eaten_10 rfl rfl ?_
      refine rb_aload_n X (pc := 11) dX5_eaten_11 rfl rfl ?_
      refine rb_iload_n X (pc := 12) dX5_eaten_12 rfl rfl ?_
      refine rc_callVi X (pc := 13) cvX5_eatenAt mX5_93 rb_ob9 (qX5_eatenAt hn hn10 _) (by decide) rfl rfl (Nat.le_of_ble_eq_true rfl) dX5_eaten_13 ?_
      refine rb_iadd X (pc := 16) dX5_eaten_16 ?_
      refine rb_istore_n X (pc := 17) dX5_eaten_17 rfl (by decide) rfl rfl ?_
      refine rb_iinc X (pc := 18) dX5_eaten_18 rfl (sp_inc _) (by decide) rfl rfl ?_
      refine rb_goto X (pc := 21) (tgt := 4) dX5_eaten_21 (by decide) ?_
      exact sp_go (by first | (simp [sp_eatA, sp_fold_s]; done) | (simp [sp_eatA, sp_fold_s]; rfl)) rfl (ih (i + 1) (by omega) (by omega))
set_option maxRecDepth 100000 in
set_option maxHeartbeats 1000000 in
theorem qX5_eaten {G : rb_G} {h : rb_H} {T : rb_T} (hn : T 4 0 = nI (sp_n T)) (hn10 : sp_n T ≤ 10) : rb_M G 4 yX5_eaten cX5_eaten 3 (some .int) [.ref (rb_ad G 9 0)] (ms h T) (rb_F (some (.int (sp_eatA T 8))) (ms h T)) := by
  refine rb_meth (L := [.ref (rb_ad G 9 0), .null, .null]) (by decide) (Nat.le_of_ble_eq_true rfl) rfl (fun Z X Y => ?_)
  have X : rb_CX Z G cX5_eaten 3 RX5 4 := X
  refine rb_iconst (v := 0) X (pc := 0) dX5_eaten_0 (by decide) ?_
  refine rb_istore_n X (pc := 1) dX5_eaten_1 rfl (by decide) rfl rfl ?_
  refine rb_iconst (v := 0) X (pc := 2) dX5_eaten_2 (by decide) ?_
  refine rb_istore_n X (pc := 3) dX5_eaten_3 rfl (by decide) rfl rfl ?_
  exact sp_go rfl rfl (lpX5_eaten_4 hn hn10 X Y (8 + 1) 0 (by omega) (by omega))
theorem fb_1 {T : rb_T} (hok : sp_ok T) {q : Nat} (hq : q < 8) (a : Int32) : (a + if 0 < T 0 q - sp_cn T q then T 0 q - sp_cn T q else 0) = if sp_free T q then a + (T 0 q - sp_cn T q) else a + 0 := by
  obtain ⟨⟨b, hb, eb⟩, -, -⟩ := hok.2.2.2 q hq
  have hc : sp_cn T q = nI (sp_cnt T q) := if_pos hq
  have hl : sp_cnt T q ≤ sp_n T := fb_ct_le _ _
  have h10 := hok.2.1
  unfold sp_free
  rw [eb, hc]
  by_cases z : sp_cnt T q < b
  · rw [if_pos ((nI_ltI (by omega) (by omega)).mpr z), pk_sub (a := b) (b := sp_cnt T q) (by omega), if_pos (show (0 : Int32) < nI (b - sp_cnt T q) from (nI_ltI (a := 0) (b := b - sp_cnt T q) (by omega) (by omega)).mpr (by omega))]
  · rw [if_neg (fun w => z ((nI_ltI (by omega) (by omega)).mp w))]
    by_cases z2 : sp_cnt T q = b
    · rw [z2, pk_sub (Nat.le_refl _), Nat.sub_self, if_neg (by decide)]
    · have := pk_sneg (a := b) (b := sp_cnt T q) (by omega) (by omega)
      rw [if_neg (fun w => Int32.lt_irrefl (Int32.lt_trans w this))]
set_option maxRecDepth 100000 in
set_option maxHeartbeats 1000000 in
theorem lpX5_freeBeds_4 {Z : rb_Z} {G : rb_G} {h : rb_H} {T : rb_T} (hok : sp_ok T) (X : rb_CX Z G cX5_freeBeds 3 RX5 4) (Y : rb_RT Z G (some .int) (rb_F (some (.int (sp_fb T 8))) (ms h T))) : ∀ fu : Nat, ∀ i : Nat, i ≤ 8 → 8 + 1 ≤ i + fu → rb_WP Z G 3 4 [.ref (rb_ad G 9 0), .int (sp_fb T i), .int (nI i)] [] (ms h T) := by
  intro fu
  induction fu with
  | zero => intro i hi hf; omega
  | succ fu ih =>
    intro i hi hf
    refine rb_iload_n X (pc := 4) dX5_freeBeds_4 rfl rfl ?_
    refine rb_bipush (v := 8) X (pc := 5) dX5_freeBeds_5 (by decide) ?_
    refine rb_icmp_ge X (pc := 7) (tgt := 46) dX5_freeBeds_7 (by decide) (fun c7 => ?_) (fun c7 => ?_)
    · have hi2 := (sp_geI (n := 8) rfl (by omega) (by omega)).mp c7
      obtain rfl : i = 8 := by omega
      refine rb_iload_n X (pc := 46) dX5_freeBeds_46 rfl rfl ?_
      refine rb_iret (S := []) X (pc := 47) Y dX5_freeBeds_47 ?_
      exact ⟨rfl, rfl⟩
    · have hi2 : i < 8 := Nat.lt_of_not_le (fun z => c7 ((sp_geI (n := 8) rfl (by omega) (by omega)).mpr z))
      refine rb_iload_n X (pc := 10) dX5_freeBeds_10 rfl rfl ?_
      refine rb_aload_n X (pc := 11) dX5_freeBeds_11 rfl rfl ?_
      refine rb_iload_n X (pc := 12) dX5_freeBeds_12 rfl rfl ?_
      refine rc_callVi X (pc := 13) cvX5_isFree mX5_125 rb_ob9 (qX5_isFree hok.1 hok.2.1 (by omega)) (by decide) rfl rfl (Nat.le_of_ble_eq_true rfl) dX5_freeBeds_13 ?_
      refine rb_if_eq X (pc := 16) (tgt := 37) dX5_freeBeds_16 (by decide) (fun c16 => ?_) (fun c16 => ?_)
      · (try simp only [sp_b0, Classical.not_not] at c16)
        refine rb_iconst (v := 0) X (pc := 37) dX5_freeBeds_37 (by decide) ?_
        refine rb_iadd X (pc := 38) dX5_freeBeds_38 ?_
        refine rb_istore_n X (pc := 39) dX5_freeBeds_39 rfl (by decide) rfl rfl ?_
        refine rb_iinc X (pc := 40) dX5_freeBeds_40 rfl (sp_inc _) (by decide) rfl rfl ?_
        refine rb_goto X (pc := 43) (tgt := 4) dX5_freeBeds_43 (by decide) ?_
        refine sp_go ?_ rfl (ih (i + 1) (by omega) (by omega))
        have e : sp_fb T (i + 1) = sp_fb T i + (if 0 < T 0 i - sp_cn T i then T 0 i - sp_cn T i else 0) := rfl
        rw [e, fb_1 hok hi2]
        first | (rw [if_pos c16]; rfl) | (rw [if_neg c16]; rfl)
      · (try simp only [sp_b0, Classical.not_not] at c16)
        refine rb_aload_n X (pc := 19) dX5_freeBeds_19 rfl rfl ?_
        refine rb_iload_n X (pc := 20) dX5_freeBeds_20 rfl rfl ?_
        refine rb_iconst (v := 0) X (pc := 21) dX5_freeBeds_21 (by decide) ?_
        refine rc_callVi X (pc := 22) cvX5_has mX5_84 rb_ob9 (qH0 (by omega)) (by decide) rfl rfl (Nat.le_of_ble_eq_true rfl) dX5_freeBeds_22 ?_
        refine rb_aload_n X (pc := 25) dX5_freeBeds_25 rfl rfl ?_
        refine rb_iload_n X (pc := 26) dX5_freeBeds_26 rfl rfl ?_
        refine rc_callVi X (pc := 27) cvX5_thoseAt mX5_87 rb_ob9 (qX5_thoseAt hok.1 hok.2.1 _) (by decide) rfl rfl (Nat.le_of_ble_eq_true rfl) dX5_freeBeds_27 ?_
        refine rc_callSi X (pc := 30) cvX5_ones mX5_122 (qOc hok.2.1 hi2) (by decide) rfl rfl (Nat.le_of_ble_eq_true rfl) dX5_freeBeds_30 ?_
        refine rb_isub X (pc := 33) dX5_freeBeds_33 ?_
        refine rb_goto X (pc := 34) (tgt := 38) dX5_freeBeds_34 (by decide) ?_
        refine rb_iadd X (pc := 38) dX5_freeBeds_38 ?_
        refine rb_istore_n X (pc := 39) dX5_freeBeds_39 rfl (by decide) rfl rfl ?_
        refine rb_iinc X (pc := 40) dX5_freeBeds_40 rfl (sp_inc _) (by decide) rfl rfl ?_
        refine rb_goto X (pc := 43) (tgt := 4) dX5_freeBeds_43 (by decide) ?_
        refine sp_go ?_ rfl (ih (i + 1) (by omega) (by omega))
        have e : sp_fb T (i + 1) = sp_fb T i + (if 0 < T 0 i - sp_cn T i then T 0 i - sp_cn T i else 0) := rfl
        rw [e, fb_1 hok hi2]
        first | (rw [if_pos c16]; rfl) | (rw [if_neg c16]; rfl)
set_option maxRecDepth 100000 in
set_option maxHeartbeats 1000000 in
theorem qX5_freeBeds {G : rb_G} {h : rb_H} {T : rb_T} (hok : sp_ok T) : rb_M G 4 yX5_freeBeds cX5_freeBeds 3 (some .int) [.ref (rb_ad G 9 0)] (ms h T) (rb_F (some (.int (sp_fb T 8))) (ms h T)) := by
  refine rb_meth (L := [.ref (rb_ad G 9 0), .null, .null]) (by decide) (Nat.le_of_ble_eq_true rfl) rfl (fun Z X Y => ?_)
  have X : rb_CX Z G cX5_freeBeds 3 RX5 4 := X
  refine rb_iconst (v := 0) X (pc := 0) dX5_freeBeds_0 (by decide) ?_
  refine rb_istore_n X (pc := 1) dX5_freeBeds_1 rfl (by decide) rfl rfl ?_
  refine rb_iconst (v := 0) X (pc := 2) dX5_freeBeds_2 (by decide) ?_
  refine rb_istore_n X (pc := 3) dX5_freeBeds_3 rfl (by decide) rfl rfl ?_
  exact sp_go rfl rfl (lpX5_freeBeds_4 hok X Y (8 + 1) 0 (by omega) (by omega))
theorem onr_s {T : rb_T} {e : Int32} {i : Nat} : sp_onr T e (i + 1) = (sp_onr T e i || (decide (T 9 i = -1) && decide (T 6 i = e))) := rfl
set_option maxRecDepth 100000 in
set_option maxHeartbeats 1000000 in
theorem lpX5_isOnRoad_4 {Z : rb_Z} {G : rb_G} {h : rb_H} {T : rb_T} (hn : T 4 0 = nI (sp_n T)) (hn10 : sp_n T ≤ 10) {e : Int32} (X : rb_CX Z G cX5_isOnRoad 4 RX5 2) (Y : rb_RT Z G (some .boolean) (rb_F (some (.int (if sp_onr T e (sp_n T) = true then 1 else 0))) (ms h T))) : ∀ fu : Nat, ∀ i : Nat, i ≤ sp_n T → sp_n T + 1 ≤ i + fu → rb_WP Z G 4 4 [.ref (rb_ad G 9 0), .int e, .int (if sp_onr T e i = true then 1 else 0), .int (nI i)] [] (ms h T) := by
  intro fu
  induction fu with
  | zero => intro i hi hf; omega
  | succ fu ih =>
    intro i hi hf
    refine rb_iload_n X (pc := 4) dX5_isOnRoad_4 rfl rfl ?_
    refine rb_aload_n X (pc := 5) dX5_isOnRoad_5 rfl rfl ?_
    refine rc_getR X (pc := 6) fX5_7 rb_ob9 rfl dX5_isOnRoad_6 ?_
    refine rb_iconst (v := 0) X (pc := 9) dX5_isOnRoad_9 (by decide) ?_
    refine rc_ialdv X (pc := 10) 0 rb_ar9_0 ms_0 rfl (by decide) dX5_isOnRoad_10 ?_
    refine rb_icmp_ge X (pc := 11) (tgt := 50) dX5_isOnRoad_11 (by decide) (fun c11 => ?_) (fun c11 => ?_)
    · have hi2 := (sp_geI hn (by omega) (by omega)).mp c11
      obtain rfl : i = sp_n T := by omega
      refine rb_iload_n X (pc := 50) dX5_isOnRoad_50 rfl rfl ?_
      refine rb_zret (S := []) X (pc := 51) Y dX5_isOnRoad_51 sp_zn ?_
      exact ⟨rfl, rfl⟩
    · have hi2 : i < sp_n T := Nat.lt_of_not_le (fun z => c11 ((sp_geI hn (by omega) (by omega)).mpr z))
      refine rb_iload_n X (pc := 14) dX5_isOnRoad_14 rfl rfl ?_
      refine rb_if_ne X (pc := 15) (tgt := 38) dX5_isOnRoad_15 (by decide) (fun c15 => ?_) (fun c15 => ?_)
      · (try simp only [sp_b0, Classical.not_not] at c15)
        refine rb_iconst (v := 1) X (pc := 38) dX5_isOnRoad_38 (by decide) ?_
        refine rb_goto X (pc := 39) (tgt := 43) dX5_isOnRoad_39 (by decide) ?_
        refine rb_istore_n X (pc := 43) dX5_isOnRoad_43 rfl (by decide) rfl rfl ?_
        refine rb_iinc X (pc := 44) dX5_isOnRoad_44 rfl (sp_inc _) (by decide) rfl rfl ?_
        refine rb_goto X (pc := 47) (tgt := 4) dX5_isOnRoad_47 (by decide) ?_
        refine sp_go ?_ rfl (ih (i + 1) (by omega) (by omega))
        simp_all [onr_s]
      · (try simp only [sp_b0, Classical.not_not] at c15)
        refine rb_aload_n X (pc := 18) dX5_isOnRoad_18 rfl rfl ?_
        refine rb_iload_n X (pc := 19) dX5_isOnRoad_19 rfl rfl ?_
        refine rb_iconst (v := 1) X (pc := 20) dX5_isOnRoad_20 (by decide) ?_
        refine rc_callVi X (pc := 21) cvX5_its mX5_78 rb_ob9 (qI1 (by omega)) (by decide) rfl rfl (Nat.le_of_ble_eq_true rfl) dX5_isOnRoad_21 ?_
        refine rb_iload_n X (pc := 24) dX5_isOnRoad_24 rfl rfl ?_
        refine rb_icmp_ne X (pc := 25) (tgt := 42) dX5_isOnRoad_25 (by decide) (fun c25 => ?_) (fun c25 => ?_)
        · refine rb_iconst (v := 0) X (pc := 42) dX5_isOnRoad_42 (by decide) ?_
          refine rb_istore_n X (pc := 43) dX5_isOnRoad_43 rfl (by decide) rfl rfl ?_
          refine rb_iinc X (pc := 44) dX5_isOnRoad_44 rfl (sp_inc _) (by decide) rfl rfl ?_
          refine rb_goto X (pc := 47) (tgt := 4) dX5_isOnRoad_47 (by decide) ?_
          refine sp_go ?_ rfl (ih (i + 1) (by omega) (by omega))
          simp_all [onr_s]
        · refine rb_aload_n X (pc := 28) dX5_isOnRoad_28 rfl rfl ?_
          refine rb_iload_n X (pc := 29) dX5_isOnRoad_29 rfl rfl ?_
          refine rb_iconst (v := 4) X (pc := 30) dX5_isOnRoad_30 (by decide) ?_
          refine rc_callVi X (pc := 31) cvX5_its mX5_78 rb_ob9 (qI4 (by omega)) (by decide) rfl rfl (Nat.le_of_ble_eq_true rfl) dX5_isOnRoad_31 ?_
          refine rb_iconst (v := (-1)) X (pc := 34) dX5_isOnRoad_34 (by decide) ?_
          refine rb_icmp_ne X (pc := 35) (tgt := 42) dX5_isOnRoad_35 (by decide) (fun c35 => ?_) (fun c35 => ?_)
          · refine rb_iconst (v := 0) X (pc := 42) dX5_isOnRoad_42 (by decide) ?_
            refine rb_istore_n X (pc := 43) dX5_isOnRoad_43 rfl (by decide) rfl rfl ?_
            refine rb_iinc X (pc := 44) dX5_isOnRoad_44 rfl (sp_inc _) (by decide) rfl rfl ?_
            refine rb_goto X (pc := 47) (tgt := 4) dX5_isOnRoad_47 (by decide) ?_
            refine sp_go ?_ rfl (ih (i + 1) (by omega) (by omega))
            simp_all [onr_s]
          · refine rb_iconst (v := 1) X (pc := 38) dX5_isOnRoad_38 (by decide) ?_
            refine rb_goto X (pc := 39) (tgt := 43) dX5_isOnRoad_39 (by decide) ?_
            refine rb_istore_n X (pc := 43) dX5_isOnRoad_43 rfl (by decide) rfl rfl ?_
            refine rb_iinc X (pc := 44) dX5_isOnRoad_44 rfl (sp_inc _) (by decide) rfl rfl ?_
            refine rb_goto X (pc := 47) (tgt := 4) dX5_isOnRoad_47 (by decide) ?_
            refine sp_go ?_ rfl (ih (i + 1) (by omega) (by omega))
            simp_all [onr_s]
set_option maxRecDepth 100000 in
set_option maxHeartbeats 1000000 in
theorem qX5_isOnRoad {G : rb_G} {h : rb_H} {T : rb_T} (hn : T 4 0 = nI (sp_n T)) (hn10 : sp_n T ≤ 10) (e : Int32) : rb_M G 2 yX5_isOnRoad cX5_isOnRoad 4 (some .boolean) [.ref (rb_ad G 9 0), .int e] (ms h T) (rb_F (some (.int (if sp_onr T e (sp_n T) = true then 1 else 0))) (ms h T)) := by
  refine rb_meth (L := [.ref (rb_ad G 9 0), .int e, .null, .null]) (by decide) (Nat.le_of_ble_eq_true rfl) rfl (fun Z X Y => ?_)
  have X : rb_CX Z G cX5_isOnRoad 4 RX5 2 := X
  refine rb_iconst (v := 0) X (pc := 0) dX5_isOnRoad_0 (by decide) ?_
  refine rb_istore_n X (pc := 1) dX5_isOnRoad_1 rfl (by decide) rfl rfl ?_
  refine rb_iconst (v := 0) X (pc := 2) dX5_isOnRoad_2 (by decide) ?_
  refine rb_istore_n X (pc := 3) dX5_isOnRoad_3 rfl (by decide) rfl rfl ?_
  exact sp_go rfl rfl (lpX5_isOnRoad_4 hn hn10 X Y (sp_n T + 1) 0 (by omega) (by omega))
set_option maxRecDepth 100000 in
set_option maxHeartbeats 1000000 in
theorem qX5_adds {G : rb_G} {h : rb_H} {T : rb_T} (hn : T 4 0 = nI (sp_n T)) (hn10 : sp_n T ≤ 10) (hq10 : sp_n T < 10) (kd e : Int32) : rb_M G 1 yX5_adds cX5_adds 4 (some .int) [.ref (rb_ad G 9 0), .int kd, .int e] (ms h T) (rb_F (some (.int (nI (sp_n T)))) (ms h (sp_add T kd e 10))) := by
  refine rb_meth (L := [.ref (rb_ad G 9 0), .int kd, .int e, .null]) (by decide) (Nat.le_of_ble_eq_true rfl) rfl (fun Z X Y => ?_)
  have X : rb_CX Z G cX5_adds 4 RX5 1 := X
  refine rb_aload_n X (pc := 0) dX5_adds_0 rfl rfl ?_
  refine rc_getR X (pc := 1) fX5_7 rb_ob9 rfl dX5_adds_1 ?_
  refine rb_iconst (v := 0) X (pc := 4) dX5_adds_4 (by decide) ?_
  refine rc_ialdv X (pc := 5) 0 rb_ar9_0 (ms_0.trans hn) rfl (by decide) dX5_adds_5 ?_
  refine rb_istore_n X (pc := 6) dX5_adds_6 rfl (by decide) rfl rfl ?_
  refine rb_aload_n X (pc := 7) dX5_adds_7 rfl rfl ?_
  refine rc_getR X (pc := 8) fX5_7 rb_ob9 rfl dX5_adds_8 ?_
  refine rb_iload_n X (pc := 11) dX5_adds_11 rfl rfl ?_
  refine rb_iconst (v := 0) X (pc := 12) dX5_adds_12 (by decide) ?_
  refine rc_callSi X (pc := 13) cvX5_spotOf mX5_56 (qX5_spotOf (w := 0)) (by decide) rfl rfl (Nat.le_of_ble_eq_true rfl) dX5_adds_13 ?_
  refine rb_iload_n X (pc := 16) dX5_adds_16 rfl rfl ?_
  refine rc_iast X (pc := 17) _ rb_ar9_0 (ms_r0 (by omega)) rfl (by omega) dX5_adds_17 ?_
  refine rb_aload_n X (pc := 18) dX5_adds_18 rfl rfl ?_
  refine rc_getR X (pc := 19) fX5_7 rb_ob9 rfl dX5_adds_19 ?_
  refine rb_iload_n X (pc := 22) dX5_adds_22 rfl rfl ?_
  refine rb_iconst (v := 1) X (pc := 23) dX5_adds_23 (by decide) ?_
  refine rc_callSi X (pc := 24) cvX5_spotOf mX5_56 (qX5_spotOf (w := 1)) (by decide) rfl rfl (Nat.le_of_ble_eq_true rfl) dX5_adds_24 ?_
  refine rb_iload_n X (pc := 27) dX5_adds_27 rfl rfl ?_
  refine rc_iast X (pc := 28) _ rb_ar9_0 (ms_r1 (by omega)) rfl (by omega) dX5_adds_28 ?_
  refine rb_aload_n X (pc := 29) dX5_adds_29 rfl rfl ?_
  refine rc_getR X (pc := 30) fX5_7 rb_ob9 rfl dX5_adds_30 ?_
  refine rb_iload_n X (pc := 33) dX5_adds_33 rfl rfl ?_
  refine rb_iconst (v := 2) X (pc := 34) dX5_adds_34 (by decide) ?_
  refine rc_callSi X (pc := 35) cvX5_spotOf mX5_56 (qX5_spotOf (w := 2)) (by decide) rfl rfl (Nat.le_of_ble_eq_true rfl) dX5_adds_35 ?_
  refine rb_bipush (v := 10) X (pc := 38) dX5_adds_38 (by decide) ?_
  refine rc_iast X (pc := 40) _ rb_ar9_0 (ms_r2 (by omega)) rfl (by omega) dX5_adds_40 ?_
  refine rb_aload_n X (pc := 41) dX5_adds_41 rfl rfl ?_
  refine rc_getR X (pc := 42) fX5_7 rb_ob9 rfl dX5_adds_42 ?_
  refine rb_iload_n X (pc := 45) dX5_adds_45 rfl rfl ?_
  refine rb_iconst (v := 3) X (pc := 46) dX5_adds_46 (by decide) ?_
  refine rc_callSi X (pc := 47) cvX5_spotOf mX5_56 (qX5_spotOf (w := 3)) (by decide) rfl rfl (Nat.le_of_ble_eq_true rfl) dX5_adds_47 ?_
  refine rb_iconst (v := 0) X (pc := 50) dX5_adds_50 (by decide) ?_
  refine rc_iast X (pc := 51) _ rb_ar9_0 (ms_r3 (by omega)) rfl (by omega) dX5_adds_51 ?_
  refine rb_aload_n X (pc := 52) dX5_adds_52 rfl rfl ?_
  refine rc_getR X (pc := 53) fX5_7 rb_ob9 rfl dX5_adds_53 ?_
  refine rb_iload_n X (pc := 56) dX5_adds_56 rfl rfl ?_
  refine rb_iconst (v := 4) X (pc := 57) dX5_adds_57 (by decide) ?_
  refine rc_callSi X (pc := 58) cvX5_spotOf mX5_56 (qX5_spotOf (w := 4)) (by decide) rfl rfl (Nat.le_of_ble_eq_true rfl) dX5_adds_58 ?_
  refine rb_iconst (v := (-1)) X (pc := 61) dX5_adds_61 (by decide) ?_
  refine rc_iast X (pc := 62) _ rb_ar9_0 (ms_r4 (by omega)) rfl (by omega) dX5_adds_62 ?_
  refine rb_aload_n X (pc := 63) dX5_adds_63 rfl rfl ?_
  refine rc_getR X (pc := 64) fX5_7 rb_ob9 rfl dX5_adds_64 ?_
  refine rb_iconst (v := 0) X (pc := 67) dX5_adds_67 (by decide) ?_
  refine rb_dup2 X (pc := 68) dX5_adds_68 rfl rfl ?_
  refine rc_ialdv X (pc := 69) 0 rb_ar9_0 ms_0 rfl (by decide) dX5_adds_69 ?_
  refine rb_iconst (v := 1) X (pc := 70) dX5_adds_70 (by decide) ?_
  refine rb_iadd X (pc := 71) dX5_adds_71 ?_
  refine rc_iast X (pc := 72) 0 rb_ar9_0 ms_u0 rfl (by decide) dX5_adds_72 ?_
  refine rb_iload_n X (pc := 73) dX5_adds_73 rfl rfl ?_
  refine rb_iret (S := []) X (pc := 74) Y dX5_adds_74 ?_
  exact ⟨rfl, rfl⟩
