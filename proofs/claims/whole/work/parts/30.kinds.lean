theorem sp_b0 {P : Prop} [Decidable P] : ((if P then (1 : Int32) else 0) = 0) ↔ ¬ P := by by_cases h : P <;> simp [h]
theorem sp_zn {P : Prop} [Decidable P] : narrow .boolean (.int (if P then (1 : Int32) else 0)) = .int (if P then (1 : Int32) else 0) := by by_cases h : P <;> simp [h] <;> rfl
set_option maxRecDepth 100000 in
set_option maxHeartbeats 1000000 in
theorem qX0_eats {G : rb_G} {h : rb_H} (k b a : Int32) : rb_M G 1 yX0_eats cX0_eats 6 (some .int) [.int k, .int b, .int a] (h) (rb_F (some (.int (sp_eats k b a))) (h)) := by
  refine rb_meth (L := [.int k, .int b, .int a, .null, .null, .null]) (by decide) (Nat.le_of_ble_eq_true rfl) rfl (fun Z X Y => ?_)
  have X : rb_CX Z G cX0_eats 6 RX0 1 := X
  refine rb_iload_n X (pc := 0) dX0_eats_0 rfl rfl ?_
  refine rb_bipush (v := 10) X (pc := 1) dX0_eats_1 (by decide) ?_
  refine rb_idiv X (pc := 3) dX0_eats_3 (by decide) ?_
  refine rb_iconst (v := 1) X (pc := 4) dX0_eats_4 (by decide) ?_
  refine rb_iadd X (pc := 5) dX0_eats_5 ?_
  refine rb_istore_n X (pc := 6) dX0_eats_6 rfl (by decide) rfl rfl ?_
  refine rb_iconst (v := 2) X (pc := 7) dX0_eats_7 (by decide) ?_
  refine rb_iload_n X (pc := 8) dX0_eats_8 rfl rfl ?_
  refine rb_imul X (pc := 9) dX0_eats_9 ?_
  refine rb_istore X (pc := 10) dX0_eats_10 (by decide) rfl rfl ?_
  refine rb_iconst (v := 1) X (pc := 12) dX0_eats_12 (by decide) ?_
  refine rb_istore X (pc := 13) dX0_eats_13 (by decide) rfl rfl ?_
  refine rb_iload_n X (pc := 15) dX0_eats_15 rfl rfl ?_
  refine rc_tabC X (pc := 16) (v := 1) (i := 0) (tgt := 52) dX0_eats_16 (by decide) (by decide) rfl (by decide) (fun c16 => ?_) (fun n16_1 => ?_)
  · refine rb_iload X (pc := 52) dX0_eats_52 rfl ?_
    refine rb_iret (S := []) X (pc := 54) Y dX0_eats_54 ?_
    exact ⟨by simp [sp_eats, *], rfl⟩
  refine rc_tabC X (pc := 16) (v := 2) (i := 1) (tgt := 55) dX0_eats_16 (by decide) (by decide) rfl (by decide) (fun c16 => ?_) (fun n16_2 => ?_)
  · refine rb_iload X (pc := 55) dX0_eats_55 rfl ?_
    refine rb_iret (S := []) X (pc := 57) Y dX0_eats_57 ?_
    exact ⟨by simp [sp_eats, *], rfl⟩
  refine rc_tabC X (pc := 16) (v := 3) (i := 2) (tgt := 58) dX0_eats_16 (by decide) (by decide) rfl (by decide) (fun c16 => ?_) (fun n16_3 => ?_)
  · refine rb_iconst (v := 0) X (pc := 58) dX0_eats_58 (by decide) ?_
    refine rb_iload_n X (pc := 59) dX0_eats_59 rfl rfl ?_
    refine rb_iload_n X (pc := 60) dX0_eats_60 rfl rfl ?_
    refine rb_bipush (v := 10) X (pc := 61) dX0_eats_61 (by decide) ?_
    refine rb_idiv X (pc := 63) dX0_eats_63 (by decide) ?_
    refine rb_isub X (pc := 64) dX0_eats_64 ?_
    refine rc_mmax X (pc := 65) mX0_13 (by decide) (Nat.le_of_ble_eq_true rfl) dX0_eats_65 ?_
    refine rb_iret (S := []) X (pc := 68) Y dX0_eats_68 ?_
    exact ⟨by simp [sp_eats, *], rfl⟩
  refine rc_tabC X (pc := 16) (v := 4) (i := 3) (tgt := 69) dX0_eats_16 (by decide) (by decide) rfl (by decide) (fun c16 => ?_) (fun n16_4 => ?_)
  · refine rb_iload X (pc := 69) dX0_eats_69 rfl ?_
    refine rb_iconst (v := 3) X (pc := 71) dX0_eats_71 (by decide) ?_
    refine rb_iadd X (pc := 72) dX0_eats_72 ?_
    refine rb_iret (S := []) X (pc := 73) Y dX0_eats_73 ?_
    exact ⟨by simp [sp_eats, *], rfl⟩
  refine rc_tabC X (pc := 16) (v := 5) (i := 4) (tgt := 74) dX0_eats_16 (by decide) (by decide) rfl (by decide) (fun c16 => ?_) (fun n16_5 => ?_)
  · refine rb_iload X (pc := 74) dX0_eats_74 rfl ?_
    refine rb_iconst (v := 1) X (pc := 76) dX0_eats_76 (by decide) ?_
    refine rb_isub X (pc := 77) dX0_eats_77 ?_
    refine rb_iret (S := []) X (pc := 78) Y dX0_eats_78 ?_
    exact ⟨by simp [sp_eats, *], rfl⟩
  refine rb_tabOut X (pc := 16) (tgt := 79) dX0_eats_16 (by have z1 := lv_neT n16_1 (a := 1) rfl; have z2 := lv_neT n16_2 (a := 2) rfl; have z3 := lv_neT n16_3 (a := 3) rfl; have z4 := lv_neT n16_4 (a := 4) rfl; have z5 := lv_neT n16_5 (a := 5) rfl; omega) (by decide) ?_
  refine rb_iload_n X (pc := 79) dX0_eats_79 rfl rfl ?_
  refine rb_iret (S := []) X (pc := 80) Y dX0_eats_80 ?_
  exact ⟨by simp [sp_eats, *], rfl⟩
set_option maxRecDepth 100000 in
set_option maxHeartbeats 1000000 in
theorem qX0_needs {G : rb_G} {h : rb_H} (k b : Int32) : rb_M G 0 yX0_needs cX0_needs 5 (some .int) [.int k, .int b] (h) (rb_F (some (.int (sp_needs k b))) (h)) := by
  refine rb_meth (L := [.int k, .int b, .null, .null, .null]) (by decide) (Nat.le_of_ble_eq_true rfl) rfl (fun Z X Y => ?_)
  have X : rb_CX Z G cX0_needs 5 RX0 0 := X
  refine rb_iconst (v := 3) X (pc := 0) dX0_needs_0 (by decide) ?_
  refine rb_istore_n X (pc := 1) dX0_needs_1 rfl (by decide) rfl rfl ?_
  refine rb_iload_n X (pc := 2) dX0_needs_2 rfl rfl ?_
  refine rb_bipush (v := 20) X (pc := 3) dX0_needs_3 (by decide) ?_
  refine rb_icmp_ge X (pc := 5) (tgt := 12) dX0_needs_5 (by decide) (fun c5 => ?_) (fun c5 => ?_)
  · have c5 := Int32.not_lt.mpr c5
    refine rb_iload_n X (pc := 12) dX0_needs_12 rfl rfl ?_
    refine rb_istore_n X (pc := 13) dX0_needs_13 rfl (by decide) rfl rfl ?_
    refine rb_iconst (v := 2) X (pc := 14) dX0_needs_14 (by decide) ?_
    refine rb_iload_n X (pc := 15) dX0_needs_15 rfl rfl ?_
    refine rb_imul X (pc := 16) dX0_needs_16 ?_
    refine rb_istore X (pc := 17) dX0_needs_17 (by decide) rfl rfl ?_
    refine rb_iload_n X (pc := 19) dX0_needs_19 rfl rfl ?_
    refine rc_tabC X (pc := 20) (v := 1) (i := 0) (tgt := 56) dX0_needs_20 (by decide) (by decide) rfl (by decide) (fun c20 => ?_) (fun n20_1 => ?_)
    · refine rb_iload_n X (pc := 56) dX0_needs_56 rfl rfl ?_
      refine rb_iret (S := []) X (pc := 57) Y dX0_needs_57 ?_
      exact ⟨by simp [sp_needs, sp_big, *], rfl⟩
    refine rc_tabC X (pc := 20) (v := 2) (i := 1) (tgt := 58) dX0_needs_20 (by decide) (by decide) rfl (by decide) (fun c20 => ?_) (fun n20_2 => ?_)
    · refine rb_iload X (pc := 58) dX0_needs_58 rfl ?_
      refine rb_iret (S := []) X (pc := 60) Y dX0_needs_60 ?_
      exact ⟨by simp [sp_needs, sp_big, *], rfl⟩
    refine rc_tabC X (pc := 20) (v := 3) (i := 2) (tgt := 61) dX0_needs_20 (by decide) (by decide) rfl (by decide) (fun c20 => ?_) (fun n20_3 => ?_)
    · refine rb_iload_n X (pc := 61) dX0_needs_61 rfl rfl ?_
      refine rb_iconst (v := 1) X (pc := 62) dX0_needs_62 (by decide) ?_
      refine rb_iadd X (pc := 63) dX0_needs_63 ?_
      refine rb_iret (S := []) X (pc := 64) Y dX0_needs_64 ?_
      exact ⟨by simp [sp_needs, sp_big, *], rfl⟩
    refine rc_tabC X (pc := 20) (v := 4) (i := 3) (tgt := 65) dX0_needs_20 (by decide) (by decide) rfl (by decide) (fun c20 => ?_) (fun n20_4 => ?_)
    · refine rb_iload_n X (pc := 65) dX0_needs_65 rfl rfl ?_
      refine rb_iconst (v := 1) X (pc := 66) dX0_needs_66 (by decide) ?_
      refine rb_isub X (pc := 67) dX0_needs_67 ?_
      refine rb_iret (S := []) X (pc := 68) Y dX0_needs_68 ?_
      exact ⟨by simp [sp_needs, sp_big, *], rfl⟩
    refine rc_tabC X (pc := 20) (v := 5) (i := 4) (tgt := 69) dX0_needs_20 (by decide) (by decide) rfl (by decide) (fun c20 => ?_) (fun n20_5 => ?_)
    · refine rb_iload X (pc := 69) dX0_needs_69 rfl ?_
      refine rb_iconst (v := 1) X (pc := 71) dX0_needs_71 (by decide) ?_
      refine rb_iadd X (pc := 72) dX0_needs_72 ?_
      refine rb_iret (S := []) X (pc := 73) Y dX0_needs_73 ?_
      exact ⟨by simp [sp_needs, sp_big, *], rfl⟩
    refine rb_tabOut X (pc := 20) (tgt := 74) dX0_needs_20 (by have z1 := lv_neT n20_1 (a := 1) rfl; have z2 := lv_neT n20_2 (a := 2) rfl; have z3 := lv_neT n20_3 (a := 3) rfl; have z4 := lv_neT n20_4 (a := 4) rfl; have z5 := lv_neT n20_5 (a := 5) rfl; omega) (by decide) ?_
    refine rb_iload_n X (pc := 74) dX0_needs_74 rfl rfl ?_
    refine rb_iret (S := []) X (pc := 75) Y dX0_needs_75 ?_
    exact ⟨by simp [sp_needs, sp_big, *], rfl⟩
  · have c5 := Int32.not_le.mp c5
    refine rb_iconst (v := 1) X (pc := 8) dX0_needs_8 (by decide) ?_
    refine rb_goto X (pc := 9) (tgt := 13) dX0_needs_9 (by decide) ?_
    refine rb_istore_n X (pc := 13) dX0_needs_13 rfl (by decide) rfl rfl ?_
    refine rb_iconst (v := 2) X (pc := 14) dX0_needs_14 (by decide) ?_
    refine rb_iload_n X (pc := 15) dX0_needs_15 rfl rfl ?_
    refine rb_imul X (pc := 16) dX0_needs_16 ?_
    refine rb_istore X (pc := 17) dX0_needs_17 (by decide) rfl rfl ?_
    refine rb_iload_n X (pc := 19) dX0_needs_19 rfl rfl ?_
    refine rc_tabC X (pc := 20) (v := 1) (i := 0) (tgt := 56) dX0_needs_20 (by decide) (by decide) rfl (by decide) (fun c20 => ?_) (fun n20_1 => ?_)
    · refine rb_iload_n X (pc := 56) dX0_needs_56 rfl rfl ?_
      refine rb_iret (S := []) X (pc := 57) Y dX0_needs_57 ?_
      exact ⟨by simp [sp_needs, sp_big, *], rfl⟩
    refine rc_tabC X (pc := 20) (v := 2) (i := 1) (tgt := 58) dX0_needs_20 (by decide) (by decide) rfl (by decide) (fun c20 => ?_) (fun n20_2 => ?_)
    · refine rb_iload X (pc := 58) dX0_needs_58 rfl ?_
      refine rb_iret (S := []) X (pc := 60) Y dX0_needs_60 ?_
      exact ⟨by simp [sp_needs, sp_big, *], rfl⟩
    refine rc_tabC X (pc := 20) (v := 3) (i := 2) (tgt := 61) dX0_needs_20 (by decide) (by decide) rfl (by decide) (fun c20 => ?_) (fun n20_3 => ?_)
    · refine rb_iload_n X (pc := 61) dX0_needs_61 rfl rfl ?_
      refine rb_iconst (v := 1) X (pc := 62) dX0_needs_62 (by decide) ?_
      refine rb_iadd X (pc := 63) dX0_needs_63 ?_
      refine rb_iret (S := []) X (pc := 64) Y dX0_needs_64 ?_
      exact ⟨by simp [sp_needs, sp_big, *], rfl⟩
    refine rc_tabC X (pc := 20) (v := 4) (i := 3) (tgt := 65) dX0_needs_20 (by decide) (by decide) rfl (by decide) (fun c20 => ?_) (fun n20_4 => ?_)
    · refine rb_iload_n X (pc := 65) dX0_needs_65 rfl rfl ?_
      refine rb_iconst (v := 1) X (pc := 66) dX0_needs_66 (by decide) ?_
      refine rb_isub X (pc := 67) dX0_needs_67 ?_
      refine rb_iret (S := []) X (pc := 68) Y dX0_needs_68 ?_
      exact ⟨by simp [sp_needs, sp_big, *], rfl⟩
    refine rc_tabC X (pc := 20) (v := 5) (i := 4) (tgt := 69) dX0_needs_20 (by decide) (by decide) rfl (by decide) (fun c20 => ?_) (fun n20_5 => ?_)
    · refine rb_iload X (pc := 69) dX0_needs_69 rfl ?_
      refine rb_iconst (v := 1) X (pc := 71) dX0_needs_71 (by decide) ?_
      refine rb_iadd X (pc := 72) dX0_needs_72 ?_
      refine rb_iret (S := []) X (pc := 73) Y dX0_needs_73 ?_
      exact ⟨by simp [sp_needs, sp_big, *], rfl⟩
    refine rb_tabOut X (pc := 20) (tgt := 74) dX0_needs_20 (by have z1 := lv_neT n20_1 (a := 1) rfl; have z2 := lv_neT n20_2 (a := 2) rfl; have z3 := lv_neT n20_3 (a := 3) rfl; have z4 := lv_neT n20_4 (a := 4) rfl; have z5 := lv_neT n20_5 (a := 5) rfl; omega) (by decide) ?_
    refine rb_iload_n X (pc := 74) dX0_needs_74 rfl rfl ?_
    refine rb_iret (S := []) X (pc := 75) Y dX0_needs_75 ?_
    exact ⟨by simp [sp_needs, sp_big, *], rfl⟩
set_option maxRecDepth 100000 in
set_option maxHeartbeats 1000000 in
theorem qX0_grows {G : rb_G} {h : rb_H} (k b a : Int32) : rb_M G 0 yX0_grows cX0_grows 4 (some .int) [.int k, .int b, .int a] (h) (rb_F (some (.int (sp_grows k b a))) (h)) := by
  refine rb_meth (L := [.int k, .int b, .int a, .null]) (by decide) (Nat.le_of_ble_eq_true rfl) rfl (fun Z X Y => ?_)
  have X : rb_CX Z G cX0_grows 4 RX0 0 := X
  refine rb_iconst (v := 1) X (pc := 0) dX0_grows_0 (by decide) ?_
  refine rb_istore_n X (pc := 1) dX0_grows_1 rfl (by decide) rfl rfl ?_
  refine rb_iload_n X (pc := 2) dX0_grows_2 rfl rfl ?_
  refine rc_tabC X (pc := 3) (v := 1) (i := 0) (tgt := 36) dX0_grows_3 (by decide) (by decide) rfl (by decide) (fun c3 => ?_) (fun n3_1 => ?_)
  · refine rb_iload_n X (pc := 36) dX0_grows_36 rfl rfl ?_
    refine rb_bipush (v := 10) X (pc := 37) dX0_grows_37 (by decide) ?_
    refine rb_idiv X (pc := 39) dX0_grows_39 (by decide) ?_
    refine rb_iload_n X (pc := 40) dX0_grows_40 rfl rfl ?_
    refine rb_iadd X (pc := 41) dX0_grows_41 ?_
    refine rb_iret (S := []) X (pc := 42) Y dX0_grows_42 ?_
    exact ⟨by simp_all [sp_grows], rfl⟩
  refine rc_tabC X (pc := 3) (v := 2) (i := 1) (tgt := 43) dX0_grows_3 (by decide) (by decide) rfl (by decide) (fun c3 => ?_) (fun n3_2 => ?_)
  · refine rb_iconst (v := 0) X (pc := 43) dX0_grows_43 (by decide) ?_
    refine rb_iret (S := []) X (pc := 44) Y dX0_grows_44 ?_
    exact ⟨by simp_all [sp_grows], rfl⟩
  refine rc_tabC X (pc := 3) (v := 3) (i := 2) (tgt := 45) dX0_grows_3 (by decide) (by decide) rfl (by decide) (fun c3 => ?_) (fun n3_3 => ?_)
  · refine rb_iload_n X (pc := 45) dX0_grows_45 rfl rfl ?_
    refine rb_iconst (v := 2) X (pc := 46) dX0_grows_46 (by decide) ?_
    refine rb_irem X (pc := 47) dX0_grows_47 (by decide) ?_
    refine rb_if_ne X (pc := 48) (tgt := 55) dX0_grows_48 (by decide) (fun c48 => ?_) (fun c48 => ?_)
    · refine rb_iconst (v := 0) X (pc := 55) dX0_grows_55 (by decide) ?_
      refine rb_iret (S := []) X (pc := 56) Y dX0_grows_56 ?_
      exact ⟨by simp_all [sp_grows], rfl⟩
    · refine rb_iload_n X (pc := 51) dX0_grows_51 rfl rfl ?_
      refine rb_goto X (pc := 52) (tgt := 56) dX0_grows_52 (by decide) ?_
      refine rb_iret (S := []) X (pc := 56) Y dX0_grows_56 ?_
      exact ⟨by simp_all [sp_grows], rfl⟩
  refine rc_tabC X (pc := 3) (v := 4) (i := 3) (tgt := 36) dX0_grows_3 (by decide) (by decide) rfl (by decide) (fun c3 => ?_) (fun n3_4 => ?_)
  · refine rb_iload_n X (pc := 36) dX0_grows_36 rfl rfl ?_
    refine rb_bipush (v := 10) X (pc := 37) dX0_grows_37 (by decide) ?_
    refine rb_idiv X (pc := 39) dX0_grows_39 (by decide) ?_
    refine rb_iload_n X (pc := 40) dX0_grows_40 rfl rfl ?_
    refine rb_iadd X (pc := 41) dX0_grows_41 ?_
    refine rb_iret (S := []) X (pc := 42) Y dX0_grows_42 ?_
    exact ⟨by simp_all [sp_grows], rfl⟩
  refine rc_tabC X (pc := 3) (v := 5) (i := 4) (tgt := 43) dX0_grows_3 (by decide) (by decide) rfl (by decide) (fun c3 => ?_) (fun n3_5 => ?_)
  · refine rb_iconst (v := 0) X (pc := 43) dX0_grows_43 (by decide) ?_
    refine rb_iret (S := []) X (pc := 44) Y dX0_grows_44 ?_
    exact ⟨by simp_all [sp_grows], rfl⟩
  refine rb_tabOut X (pc := 3) (tgt := 57) dX0_grows_3 (by have z1 := lv_neT n3_1 (a := 1) rfl; have z2 := lv_neT n3_2 (a := 2) rfl; have z3 := lv_neT n3_3 (a := 3) rfl; have z4 := lv_neT n3_4 (a := 4) rfl; have z5 := lv_neT n3_5 (a := 5) rfl; omega) (by decide) ?_
  refine rb_iload_n X (pc := 57) dX0_grows_57 rfl rfl ?_
  refine rb_iret (S := []) X (pc := 58) Y dX0_grows_58 ?_
  exact ⟨by simp_all [sp_grows], rfl⟩
def sp_nm (k : Int32) : Nat := if k = 1 then 1 else if k = 2 then 2 else if k = 3 then 3 else if k = 4 then 4 else if k = 5 then 5 else 0
set_option maxRecDepth 100000 in
set_option maxHeartbeats 1000000 in
theorem qX0_nameOf {G : rb_G} {h : rb_H} (k : Int32) : rb_M G 0 yX0_nameOf cX0_nameOf 1 (some (.object "java/lang/String")) [.int k] (h) (rb_F (some (.ref (G.2.2.2.1 (sp_nm k)))) h) := by
  refine rb_meth (L := [.int k]) (by decide) (Nat.le_of_ble_eq_true rfl) rfl (fun Z X Y => ?_)
  have X : rb_CX Z G cX0_nameOf 1 RX0 0 := X
  refine rb_iload_n X (pc := 0) dX0_nameOf_0 rfl rfl ?_
  refine rc_tabC X (pc := 1) (v := 1) (i := 0) (tgt := 36) dX0_nameOf_1 (by decide) (by decide) rfl (by decide) (fun c1 => ?_) (fun n1_1 => ?_)
  · refine rb_ldcS X (pc := 36) 1 (by decide) rfl rfl dX0_nameOf_36 ?_
    refine rb_aret (S := []) X (pc := 38) Y dX0_nameOf_38 ?_
    exact ⟨by simp_all [sp_nm], rfl⟩
  refine rc_tabC X (pc := 1) (v := 2) (i := 1) (tgt := 39) dX0_nameOf_1 (by decide) (by decide) rfl (by decide) (fun c1 => ?_) (fun n1_2 => ?_)
  · refine rb_ldcS X (pc := 39) 2 (by decide) rfl rfl dX0_nameOf_39 ?_
    refine rb_aret (S := []) X (pc := 41) Y dX0_nameOf_41 ?_
    exact ⟨by simp_all [sp_nm], rfl⟩
  refine rc_tabC X (pc := 1) (v := 3) (i := 2) (tgt := 42) dX0_nameOf_1 (by decide) (by decide) rfl (by decide) (fun c1 => ?_) (fun n1_3 => ?_)
  · refine rb_ldcS X (pc := 42) 3 (by decide) rfl rfl dX0_nameOf_42 ?_
    refine rb_aret (S := []) X (pc := 44) Y dX0_nameOf_44 ?_
    exact ⟨by simp_all [sp_nm], rfl⟩
  refine rc_tabC X (pc := 1) (v := 4) (i := 3) (tgt := 45) dX0_nameOf_1 (by decide) (by decide) rfl (by decide) (fun c1 => ?_) (fun n1_4 => ?_)
  · refine rb_ldcS X (pc := 45) 4 (by decide) rfl rfl dX0_nameOf_45 ?_
    refine rb_aret (S := []) X (pc := 47) Y dX0_nameOf_47 ?_
    exact ⟨by simp_all [sp_nm], rfl⟩
  refine rc_tabC X (pc := 1) (v := 5) (i := 4) (tgt := 48) dX0_nameOf_1 (by decide) (by decide) rfl (by decide) (fun c1 => ?_) (fun n1_5 => ?_)
  · refine rb_ldcS X (pc := 48) 5 (by decide) rfl rfl dX0_nameOf_48 ?_
    refine rb_aret (S := []) X (pc := 50) Y dX0_nameOf_50 ?_
    exact ⟨by simp_all [sp_nm], rfl⟩
  refine rb_tabOut X (pc := 1) (tgt := 51) dX0_nameOf_1 (by have z1 := lv_neT n1_1 (a := 1) rfl; have z2 := lv_neT n1_2 (a := 2) rfl; have z3 := lv_neT n1_3 (a := 3) rfl; have z4 := lv_neT n1_4 (a := 4) rfl; have z5 := lv_neT n1_5 (a := 5) rfl; omega) (by decide) ?_
  refine rb_ldcS X (pc := 51) 0 (by decide) rfl rfl dX0_nameOf_51 ?_
  refine rb_aret (S := []) X (pc := 53) Y dX0_nameOf_53 ?_
  exact ⟨by simp_all [sp_nm], rfl⟩
set_option maxRecDepth 100000 in
set_option maxHeartbeats 1000000 in
theorem qX3_isFull {G : rb_G} {h : rb_H} {t : Nat} {T : rb_T} (ht : t < 3)  : rb_M G 0 yX3_isFull cX3_isFull 1 (some .boolean) [.ref (rb_ad G t 0)] (tw h t T) (rb_F (some (.int (if (10 : Int32) ≤ T 4 0 then 1 else 0))) (tw h t T)) := by
  refine rb_meth (L := [.ref (rb_ad G t 0)]) (by decide) (Nat.le_of_ble_eq_true rfl) rfl (fun Z X Y => ?_)
  have X : rb_CX Z G cX3_isFull 1 RX3 0 := X
  refine rb_aload_n X (pc := 0) dX3_isFull_0 rfl rfl ?_
  refine rc_getI X (pc := 1) fX3_24 (rb_obT ht) rfl rb_tf4 dX3_isFull_1 ?_
  refine rb_bipush (v := 10) X (pc := 4) dX3_isFull_4 (by decide) ?_
  refine rb_icmp_lt X (pc := 6) (tgt := 13) dX3_isFull_6 (by decide) (fun c6 => ?_) (fun c6 => ?_)
  · refine rb_iconst (v := 0) X (pc := 13) dX3_isFull_13 (by decide) ?_
    refine rb_zret (S := []) X (pc := 14) Y dX3_isFull_14 rfl ?_
    exact ⟨by simp_all, rfl⟩
  · refine rb_iconst (v := 1) X (pc := 9) dX3_isFull_9 (by decide) ?_
    refine rb_goto X (pc := 10) (tgt := 14) dX3_isFull_10 (by decide) ?_
    refine rb_zret (S := []) X (pc := 14) Y dX3_isFull_14 rfl ?_
    exact ⟨by simp_all, rfl⟩
set_option maxRecDepth 100000 in
set_option maxHeartbeats 1000000 in
theorem qX3_eatsOf {G : rb_G} {h : rb_H} {t : Nat} {T : rb_T} (ht : t < 3) {r : Nat} (hr : r < 10) : rb_M G 2 yX3_eatsOf cX3_eatsOf 2 (some .int) [.ref (rb_ad G t 0), .int (nI r)] (tw h t T) (rb_F (some (.int (sp_eats (T 5 r) (T 7 r) (T 8 r)))) (tw h t T)) := by
  refine rb_meth (L := [.ref (rb_ad G t 0), .int (nI r)]) (by decide) (Nat.le_of_ble_eq_true rfl) rfl (fun Z X Y => ?_)
  have X : rb_CX Z G cX3_eatsOf 2 RX3 2 := X
  refine rb_aload_n X (pc := 0) dX3_eatsOf_0 rfl rfl ?_
  refine rc_getR X (pc := 1) fX3_28 (rb_obT ht) rfl dX3_eatsOf_1 ?_
  refine rb_iload_n X (pc := 4) dX3_eatsOf_4 rfl rfl ?_
  refine rc_iald X (pc := 5) _ (rb_arT5 ht) rb_tj5 rfl (by omega) dX3_eatsOf_5 ?_
  refine rb_aload_n X (pc := 6) dX3_eatsOf_6 rfl rfl ?_
  refine rc_getR X (pc := 7) fX3_34 (rb_obT ht) rfl dX3_eatsOf_7 ?_
  refine rb_iload_n X (pc := 10) dX3_eatsOf_10 rfl rfl ?_
  refine rc_iald X (pc := 11) _ (rb_arT7 ht) rb_tj7 rfl (by omega) dX3_eatsOf_11 ?_
  refine rb_aload_n X (pc := 12) dX3_eatsOf_12 rfl rfl ?_
  refine rc_getR X (pc := 13) fX3_37 (rb_obT ht) rfl dX3_eatsOf_13 ?_
  refine rb_iload_n X (pc := 16) dX3_eatsOf_16 rfl rfl ?_
  refine rc_iald X (pc := 17) _ (rb_arT8 ht) rb_tj8 rfl (by omega) dX3_eatsOf_17 ?_
  refine rc_callSi X (pc := 18) cvX0_eats mX3_59 (qX0_eats _ _ _) (by decide) rfl rfl (Nat.le_of_ble_eq_true rfl) dX3_eatsOf_18 ?_
  refine rb_iret (S := []) X (pc := 21) Y dX3_eatsOf_21 ?_
  exact ⟨rfl, rfl⟩
set_option maxRecDepth 100000 in
set_option maxHeartbeats 1000000 in
theorem qX3_needsOf {G : rb_G} {h : rb_H} {t : Nat} {T : rb_T} (ht : t < 3) {r : Nat} (hr : r < 10) : rb_M G 1 yX3_needsOf cX3_needsOf 2 (some .int) [.ref (rb_ad G t 0), .int (nI r)] (tw h t T) (rb_F (some (.int (sp_needs (T 5 r) (T 7 r)))) (tw h t T)) := by
  refine rb_meth (L := [.ref (rb_ad G t 0), .int (nI r)]) (by decide) (Nat.le_of_ble_eq_true rfl) rfl (fun Z X Y => ?_)
  have X : rb_CX Z G cX3_needsOf 2 RX3 1 := X
  refine rb_aload_n X (pc := 0) dX3_needsOf_0 rfl rfl ?_
  refine rc_getR X (pc := 1) fX3_28 (rb_obT ht) rfl dX3_needsOf_1 ?_
  refine rb_iload_n X (pc := 4) dX3_needsOf_4 rfl rfl ?_
  refine rc_iald X (pc := 5) _ (rb_arT5 ht) rb_tj5 rfl (by omega) dX3_needsOf_5 ?_
  refine rb_aload_n X (pc := 6) dX3_needsOf_6 rfl rfl ?_
  refine rc_getR X (pc := 7) fX3_34 (rb_obT ht) rfl dX3_needsOf_7 ?_
  refine rb_iload_n X (pc := 10) dX3_needsOf_10 rfl rfl ?_
  refine rc_iald X (pc := 11) _ (rb_arT7 ht) rb_tj7 rfl (by omega) dX3_needsOf_11 ?_
  refine rc_callSi X (pc := 12) cvX0_needs mX3_65 (qX0_needs _ _) (by decide) rfl rfl (Nat.le_of_ble_eq_true rfl) dX3_needsOf_12 ?_
  refine rb_iret (S := []) X (pc := 15) Y dX3_needsOf_15 ?_
  exact ⟨rfl, rfl⟩
set_option maxRecDepth 100000 in
set_option maxHeartbeats 1000000 in
theorem qX3_growsOf {G : rb_G} {h : rb_H} {t : Nat} {T : rb_T} (ht : t < 3) {r : Nat} (hr : r < 10) : rb_M G 1 yX3_growsOf cX3_growsOf 2 (some .int) [.ref (rb_ad G t 0), .int (nI r)] (tw h t T) (rb_F (some (.int (sp_grows (T 5 r) (T 7 r) (T 8 r)))) (tw h t T)) := by
  refine rb_meth (L := [.ref (rb_ad G t 0), .int (nI r)]) (by decide) (Nat.le_of_ble_eq_true rfl) rfl (fun Z X Y => ?_)
  have X : rb_CX Z G cX3_growsOf 2 RX3 1 := X
  refine rb_aload_n X (pc := 0) dX3_growsOf_0 rfl rfl ?_
  refine rc_getR X (pc := 1) fX3_28 (rb_obT ht) rfl dX3_growsOf_1 ?_
  refine rb_iload_n X (pc := 4) dX3_growsOf_4 rfl rfl ?_
  refine rc_iald X (pc := 5) _ (rb_arT5 ht) rb_tj5 rfl (by omega) dX3_growsOf_5 ?_
  refine rb_aload_n X (pc := 6) dX3_growsOf_6 rfl rfl ?_
  refine rc_getR X (pc := 7) fX3_34 (rb_obT ht) rfl dX3_growsOf_7 ?_
  refine rb_iload_n X (pc := 10) dX3_growsOf_10 rfl rfl ?_
  refine rc_iald X (pc := 11) _ (rb_arT7 ht) rb_tj7 rfl (by omega) dX3_growsOf_11 ?_
  refine rb_aload_n X (pc := 12) dX3_growsOf_12 rfl rfl ?_
  refine rc_getR X (pc := 13) fX3_37 (rb_obT ht) rfl dX3_growsOf_13 ?_
  refine rb_iload_n X (pc := 16) dX3_growsOf_16 rfl rfl ?_
  refine rc_iald X (pc := 17) _ (rb_arT8 ht) rb_tj8 rfl (by omega) dX3_growsOf_17 ?_
  refine rc_callSi X (pc := 18) cvX0_grows mX3_69 (qX0_grows _ _ _) (by decide) rfl rfl (Nat.le_of_ble_eq_true rfl) dX3_growsOf_18 ?_
  refine rb_iret (S := []) X (pc := 21) Y dX3_growsOf_21 ?_
  exact ⟨rfl, rfl⟩
abbrev sp_tr (T : rb_T) (e : Int32) : Prop := ¬ (T 11 0 &&& ((1 : Int32) <<< (e &&& 31)) = 0)
set_option maxRecDepth 100000 in
set_option maxHeartbeats 1000000 in
theorem qX3_isTrue {G : rb_G} {h : rb_H} {t : Nat} {T : rb_T} (ht : t < 3) (e : Int32) : rb_M G 0 yX3_isTrue cX3_isTrue 2 (some .boolean) [.ref (rb_ad G t 0), .int e] (tw h t T) (rb_F (some (.int (if sp_tr T e then 1 else 0))) (tw h t T)) := by
  refine rb_meth (L := [.ref (rb_ad G t 0), .int e]) (by decide) (Nat.le_of_ble_eq_true rfl) rfl (fun Z X Y => ?_)
  have X : rb_CX Z G cX3_isTrue 2 RX3 0 := X
  refine rb_aload_n X (pc := 0) dX3_isTrue_0 rfl rfl ?_
  refine rc_getI X (pc := 1) fX3_46 (rb_obT ht) rfl rb_tf11 dX3_isTrue_1 ?_
  refine rb_iconst (v := 1) X (pc := 4) dX3_isTrue_4 (by decide) ?_
  refine rb_iload_n X (pc := 5) dX3_isTrue_5 rfl rfl ?_
  refine rb_ishl X (pc := 6) dX3_isTrue_6 ?_
  refine rb_iand X (pc := 7) dX3_isTrue_7 ?_
  refine rb_if_eq X (pc := 8) (tgt := 15) dX3_isTrue_8 (by decide) (fun c8 => ?_) (fun c8 => ?_)
  · refine rb_iconst (v := 0) X (pc := 15) dX3_isTrue_15 (by decide) ?_
    refine rb_zret (S := []) X (pc := 16) Y dX3_isTrue_16 rfl ?_
    exact ⟨by simp_all [sp_tr], rfl⟩
  · refine rb_iconst (v := 1) X (pc := 11) dX3_isTrue_11 (by decide) ?_
    refine rb_goto X (pc := 12) (tgt := 16) dX3_isTrue_12 (by decide) ?_
    refine rb_zret (S := []) X (pc := 16) Y dX3_isTrue_16 rfl ?_
    exact ⟨by simp_all [sp_tr], rfl⟩
abbrev sp_free (T : rb_T) (q : Nat) : Prop := sp_cn T q < T 0 q
abbrev sp_tk (T : rb_T) (q : Nat) (nd : Int32) : Prop := sp_free T q ∧ nd ≤ T 2 q
set_option maxRecDepth 100000 in
set_option maxHeartbeats 1000000 in
theorem qX3_hasBedFree {G : rb_G} {h : rb_H} {t : Nat} {T : rb_T} (ht : t < 3) {q : Nat} (hq : q < 8) : rb_M G 0 yX3_hasBedFree cX3_hasBedFree 2 (some .boolean) [.ref (rb_ad G t 0), .int (nI q)] (tw h t T) (rb_F (some (.int (if sp_free T q then 1 else 0))) (tw h t T)) := by
  refine rb_meth (L := [.ref (rb_ad G t 0), .int (nI q)]) (by decide) (Nat.le_of_ble_eq_true rfl) rfl (fun Z X Y => ?_)
  have X : rb_CX Z G cX3_hasBedFree 2 RX3 0 := X
  refine rb_aload_n X (pc := 0) dX3_hasBedFree_0 rfl rfl ?_
  refine rc_getR X (pc := 1) fX3_21 (rb_obT ht) rfl dX3_hasBedFree_1 ?_
  refine rb_iload_n X (pc := 4) dX3_hasBedFree_4 rfl rfl ?_
  refine rc_iald X (pc := 5) _ (rb_arT3 ht) rb_tj3 rfl (by omega) dX3_hasBedFree_5 ?_
  refine rb_aload_n X (pc := 6) dX3_hasBedFree_6 rfl rfl ?_
  refine rc_getR X (pc := 7) fX3_9 (rb_obT ht) rfl dX3_hasBedFree_7 ?_
  refine rb_iload_n X (pc := 10) dX3_hasBedFree_10 rfl rfl ?_
  refine rc_iald X (pc := 11) _ (rb_arT0 ht) rb_tj0 rfl (by omega) dX3_hasBedFree_11 ?_
  refine rb_icmp_ge X (pc := 12) (tgt := 19) dX3_hasBedFree_12 (by decide) (fun c12 => ?_) (fun c12 => ?_)
  · refine rb_iconst (v := 0) X (pc := 19) dX3_hasBedFree_19 (by decide) ?_
    refine rb_zret (S := []) X (pc := 20) Y dX3_hasBedFree_20 rfl ?_
    exact ⟨by simp_all [sp_free], rfl⟩
  · refine rb_iconst (v := 1) X (pc := 15) dX3_hasBedFree_15 (by decide) ?_
    refine rb_goto X (pc := 16) (tgt := 20) dX3_hasBedFree_16 (by decide) ?_
    refine rb_zret (S := []) X (pc := 20) Y dX3_hasBedFree_20 rfl ?_
    exact ⟨by simp_all [sp_free], rfl⟩
set_option maxRecDepth 100000 in
set_option maxHeartbeats 1000000 in
theorem qX3_wouldTake {G : rb_G} {h : rb_H} {t : Nat} {T : rb_T} (ht : t < 3) {q : Nat} (hq : q < 8) (nd : Int32) : rb_M G 1 yX3_wouldTake cX3_wouldTake 3 (some .boolean) [.ref (rb_ad G t 0), .int (nI q), .int nd] (tw h t T) (rb_F (some (.int (if sp_tk T q nd then 1 else 0))) (tw h t T)) := by
  refine rb_meth (L := [.ref (rb_ad G t 0), .int (nI q), .int nd]) (by decide) (Nat.le_of_ble_eq_true rfl) rfl (fun Z X Y => ?_)
  have X : rb_CX Z G cX3_wouldTake 3 RX3 1 := X
  refine rb_aload_n X (pc := 0) dX3_wouldTake_0 rfl rfl ?_
  refine rb_iload_n X (pc := 1) dX3_wouldTake_1 rfl rfl ?_
  refine rc_callVi X (pc := 2) cvX3_hasBedFree mX3_72 (rb_obT ht) (qX3_hasBedFree ht (by omega)) (by decide) rfl rfl (Nat.le_of_ble_eq_true rfl) dX3_wouldTake_2 ?_
  refine rb_if_eq X (pc := 5) (tgt := 22) dX3_wouldTake_5 (by decide) (fun c5 => ?_) (fun c5 => ?_)
  · (try simp only [sp_b0, Classical.not_not] at c5)
    refine rb_iconst (v := 0) X (pc := 22) dX3_wouldTake_22 (by decide) ?_
    refine rb_zret (S := []) X (pc := 23) Y dX3_wouldTake_23 rfl ?_
    exact ⟨by simp [sp_tk, *], rfl⟩
  · (try simp only [sp_b0, Classical.not_not] at c5)
    refine rb_aload_n X (pc := 8) dX3_wouldTake_8 rfl rfl ?_
    refine rc_getR X (pc := 9) fX3_18 (rb_obT ht) rfl dX3_wouldTake_9 ?_
    refine rb_iload_n X (pc := 12) dX3_wouldTake_12 rfl rfl ?_
    refine rc_iald X (pc := 13) _ (rb_arT2 ht) rb_tj2 rfl (by omega) dX3_wouldTake_13 ?_
    refine rb_iload_n X (pc := 14) dX3_wouldTake_14 rfl rfl ?_
    refine rb_icmp_lt X (pc := 15) (tgt := 22) dX3_wouldTake_15 (by decide) (fun c15 => ?_) (fun c15 => ?_)
    · refine rb_iconst (v := 0) X (pc := 22) dX3_wouldTake_22 (by decide) ?_
      refine rb_zret (S := []) X (pc := 23) Y dX3_wouldTake_23 rfl ?_
      exact ⟨by simp [sp_tk, *], rfl⟩
    · refine rb_iconst (v := 1) X (pc := 18) dX3_wouldTake_18 (by decide) ?_
      refine rb_goto X (pc := 19) (tgt := 23) dX3_wouldTake_19 (by decide) ?_
      refine rb_zret (S := []) X (pc := 23) Y dX3_wouldTake_23 rfl ?_
      exact ⟨by simp [sp_tk, *], rfl⟩
