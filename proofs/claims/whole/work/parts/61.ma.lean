set_option maxRecDepth 100000 in
set_option maxHeartbeats 1000000 in
theorem qX5_in {G : rb_G} {h : rb_H} (x a b : Int64) : rb_M G 0 yX5_in cX5_in 6 (some .boolean) [.long x, .long a, .long b] (h) (rb_F (some (.int (if a ≤ x ∧ x ≤ b then 1 else 0))) (h)) := by
  refine rb_meth (L := [.long x, .null, .long a, .null, .long b, .null]) (by decide) (Nat.le_of_ble_eq_true rfl) rfl (fun Z X Y => ?_)
  have X : rb_CX Z G cX5_in 6 RX5 0 := X
  refine rb_lload_n X (pc := 0) dX5_in_0 rfl rfl ?_
  refine rb_lload_n X (pc := 1) dX5_in_1 rfl rfl ?_
  refine rb_lcmp X (pc := 2) dX5_in_2 ?_
  refine rb_if_lt X (pc := 3) (tgt := 17) dX5_in_3 (by decide) (fun c3 => ?_) (fun c3 => ?_)
  · have c3 := Int64.not_le.mpr (lg_lt0.mp c3)
    refine rb_iconst (v := 0) X (pc := 17) dX5_in_17 (by decide) ?_
    refine rb_zret (S := []) X (pc := 18) Y dX5_in_18 rfl ?_
    exact ⟨by simp [*], rfl⟩
  · have c3 := Int64.not_lt.mp (fun z => c3 (lg_lt0.mpr z))
    refine rb_lload_n X (pc := 6) dX5_in_6 rfl rfl ?_
    refine rb_lload X (pc := 7) dX5_in_7 rfl ?_
    refine rb_lcmp X (pc := 9) dX5_in_9 ?_
    refine rb_if_gt X (pc := 10) (tgt := 17) dX5_in_10 (by decide) (fun c10 => ?_) (fun c10 => ?_)
    · have c10 := Int64.not_le.mpr (lg_gt0.mp c10)
      refine rb_iconst (v := 0) X (pc := 17) dX5_in_17 (by decide) ?_
      refine rb_zret (S := []) X (pc := 18) Y dX5_in_18 rfl ?_
      exact ⟨by simp [*], rfl⟩
    · have c10 := Int64.not_lt.mp (fun z => c10 (lg_gt0.mpr z))
      refine rb_iconst (v := 1) X (pc := 13) dX5_in_13 (by decide) ?_
      refine rb_goto X (pc := 14) (tgt := 18) dX5_in_14 (by decide) ?_
      refine rb_zret (S := []) X (pc := 18) Y dX5_in_18 rfl ?_
      exact ⟨by simp [*], rfl⟩
theorem qJn {G : rb_G} {h : rb_H} {x a b : Int32} {a' b' : Int64} (ha : a' = a.toInt64) (hb : b' = b.toInt64) : rb_M G 0 yX5_in cX5_in 6 (some .boolean) [.long x.toInt64, .long a', .long b'] h (rb_F (some (.int (if a ≤ x ∧ x ≤ b then 1 else 0))) (h)) := by
  subst ha; subst hb
  have e := qX5_in (G := G) (h := h) x.toInt64 a.toInt64 b.toInt64
  simp only [fa_wide_le] at e
  exact e
theorem i_lt {x : Int32} {n : Nat} (hn : n + 1 < 2 ^ 31) : x ≤ nI n ↔ x < nI (n + 1) := by
  rw [fa_le, fa_lt, nI_toInt (by omega), nI_toInt hn]
  omega
theorem i_lt1 {x : Int32} {n : Nat} (hn : n < 2 ^ 31) : x ≤ nI n - 1 ↔ x < nI n := by
  cases n with
  | zero =>
    rw [fa_le, fa_lt]
    have e1 : (nI 0 - 1).toInt = -1 := by decide
    have e2 : (nI 0).toInt = 0 := by decide
    omega
  | succ m => rw [show nI (m + 1) - 1 = nI m from pk_sub (a := m + 1) (b := 1) (by omega)]; exact i_lt hn
theorem iH_e {x : Int32} : (0 ≤ x ∧ x ≤ 7) ↔ iH x = true := by rw [iH, decide_eq_true_eq]; exact and_congr_right (fun _ => i_lt (n := 7) (by decide))
theorem iK_e {x : Int32} : (0 ≤ x ∧ x ≤ 5) ↔ iK x = true := by rw [iK, decide_eq_true_eq]; exact and_congr_right (fun _ => i_lt (n := 5) (by decide))
theorem iE_e {x : Int32} : (0 ≤ x ∧ x ≤ 15) ↔ iE x = true := by rw [iE, decide_eq_true_eq]; exact and_congr_right (fun _ => i_lt (n := 15) (by decide))
theorem iS_e {x : Int32} : (0 ≤ x ∧ x ≤ 3) ↔ iS x = true := by rw [iS, decide_eq_true_eq]; exact and_congr_right (fun _ => i_lt (n := 3) (by decide))
theorem iN_e {x m : Int32} : (0 ≤ x ∧ x ≤ m) ↔ iN x m = true := by rw [iN, decide_eq_true_eq]
theorem iV_e {x m : Int32} : (1 ≤ x ∧ x ≤ m) ↔ iV x m = true := by rw [iV, decide_eq_true_eq]
theorem iR_e {T : rb_T} {x : Int32} (hn : T 4 0 = nI (sp_n T)) (hn10 : sp_n T ≤ 10) : (0 ≤ x ∧ x ≤ T 4 0 - 1) ↔ iR T x = true := by rw [iR, decide_eq_true_eq, hn, i_lt1 (by omega)]
theorem sp_spot (r w : Nat) : (27 : Int32) + 5 * nI r + nI w = nI (27 + 5 * r + w) := by rw [show (27 : Int32) = nI 27 from rfl, show (5 : Int32) = nI 5 from rfl, pk_mul, nI_add, nI_add]
theorem sp_part (r w : Nat) : (3 : Int32) + 3 * nI r + nI w = nI (3 + 3 * r + w) := by rw [show (3 : Int32) = nI 3 from rfl, pk_mul, nI_add, nI_add]
set_option maxRecDepth 100000 in
set_option maxHeartbeats 1000000 in
theorem qX5_isHouse {G : rb_G} {h : rb_H} (x : Int32) : rb_M G 1 yX5_isHouse cX5_isHouse 1 (some .boolean) [.int x] (h) (rb_F (some (.int (if iH x = true then 1 else 0))) (h)) := by
  refine rb_meth (L := [.int x]) (by decide) (Nat.le_of_ble_eq_true rfl) rfl (fun Z X Y => ?_)
  have X : rb_CX Z G cX5_isHouse 1 RX5 1 := X
  refine rb_iload_n X (pc := 0) dX5_isHouse_0 rfl rfl ?_
  refine rb_i2l X (pc := 1) dX5_isHouse_1 ?_
  refine rb_lconst (v := 0) X (pc := 2) dX5_isHouse_2 (by decide) ?_
  refine rb_ldc2 X (pc := 3) dX5_isHouse_3 kX5_46 ?_
  refine rc_callSi X (pc := 6) cvX5_in mX5_48 (qJn (a := (0)) (b := (7)) rfl rfl) (by decide) rfl rfl (Nat.le_of_ble_eq_true rfl) dX5_isHouse_6 ?_
  refine rb_zret (S := []) X (pc := 9) Y dX5_isHouse_9 sp_zn ?_
  exact ⟨by simp only [iH_e], rfl⟩
set_option maxRecDepth 100000 in
set_option maxHeartbeats 1000000 in
theorem qX5_isKind {G : rb_G} {h : rb_H} (x : Int32) : rb_M G 1 yX5_isKind cX5_isKind 1 (some .boolean) [.int x] (h) (rb_F (some (.int (if iK x = true then 1 else 0))) (h)) := by
  refine rb_meth (L := [.int x]) (by decide) (Nat.le_of_ble_eq_true rfl) rfl (fun Z X Y => ?_)
  have X : rb_CX Z G cX5_isKind 1 RX5 1 := X
  refine rb_iload_n X (pc := 0) dX5_isKind_0 rfl rfl ?_
  refine rb_i2l X (pc := 1) dX5_isKind_1 ?_
  refine rb_lconst (v := 0) X (pc := 2) dX5_isKind_2 (by decide) ?_
  refine rb_ldc2 X (pc := 3) dX5_isKind_3 kX5_52 ?_
  refine rc_callSi X (pc := 6) cvX5_in mX5_48 (qJn (a := (0)) (b := (5)) rfl rfl) (by decide) rfl rfl (Nat.le_of_ble_eq_true rfl) dX5_isKind_6 ?_
  refine rb_zret (S := []) X (pc := 9) Y dX5_isKind_9 sp_zn ?_
  exact ⟨by simp only [iK_e], rfl⟩
set_option maxRecDepth 100000 in
set_option maxHeartbeats 1000000 in
theorem qX5_isEvent {G : rb_G} {h : rb_H} (x : Int32) : rb_M G 1 yX5_isEvent cX5_isEvent 1 (some .boolean) [.int x] (h) (rb_F (some (.int (if iE x = true then 1 else 0))) (h)) := by
  refine rb_meth (L := [.int x]) (by decide) (Nat.le_of_ble_eq_true rfl) rfl (fun Z X Y => ?_)
  have X : rb_CX Z G cX5_isEvent 1 RX5 1 := X
  refine rb_iload_n X (pc := 0) dX5_isEvent_0 rfl rfl ?_
  refine rb_i2l X (pc := 1) dX5_isEvent_1 ?_
  refine rb_lconst (v := 0) X (pc := 2) dX5_isEvent_2 (by decide) ?_
  refine rb_ldc2 X (pc := 3) dX5_isEvent_3 kX5_54 ?_
  refine rc_callSi X (pc := 6) cvX5_in mX5_48 (qJn (a := (0)) (b := (15)) rfl rfl) (by decide) rfl rfl (Nat.le_of_ble_eq_true rfl) dX5_isEvent_6 ?_
  refine rb_zret (S := []) X (pc := 9) Y dX5_isEvent_9 sp_zn ?_
  exact ⟨by simp only [iE_e], rfl⟩
set_option maxRecDepth 100000 in
set_option maxHeartbeats 1000000 in
theorem qX5_isOne {G : rb_G} {h : rb_H} (x : Int32) : rb_M G 1 yX5_isOne cX5_isOne 1 (some .boolean) [.int x] (h) (rb_F (some (.int (if iS x = true then 1 else 0))) (h)) := by
  refine rb_meth (L := [.int x]) (by decide) (Nat.le_of_ble_eq_true rfl) rfl (fun Z X Y => ?_)
  have X : rb_CX Z G cX5_isOne 1 RX5 1 := X
  refine rb_iload_n X (pc := 0) dX5_isOne_0 rfl rfl ?_
  refine rb_i2l X (pc := 1) dX5_isOne_1 ?_
  refine rb_lconst (v := 0) X (pc := 2) dX5_isOne_2 (by decide) ?_
  refine rb_ldc2 X (pc := 3) dX5_isOne_3 kX5_61 ?_
  refine rc_callSi X (pc := 6) cvX5_in mX5_48 (qJn (a := (0)) (b := (3)) rfl rfl) (by decide) rfl rfl (Nat.le_of_ble_eq_true rfl) dX5_isOne_6 ?_
  refine rb_zret (S := []) X (pc := 9) Y dX5_isOne_9 sp_zn ?_
  exact ⟨by simp only [iS_e], rfl⟩
set_option maxRecDepth 100000 in
set_option maxHeartbeats 1000000 in
theorem qX5_isAhead {G : rb_G} {h : rb_H} (x : Int32) : rb_M G 1 yX5_isAhead cX5_isAhead 1 (some .boolean) [.int x] (h) (rb_F (some (.int (if iN x 60 = true then 1 else 0))) (h)) := by
  refine rb_meth (L := [.int x]) (by decide) (Nat.le_of_ble_eq_true rfl) rfl (fun Z X Y => ?_)
  have X : rb_CX Z G cX5_isAhead 1 RX5 1 := X
  refine rb_iload_n X (pc := 0) dX5_isAhead_0 rfl rfl ?_
  refine rb_i2l X (pc := 1) dX5_isAhead_1 ?_
  refine rb_lconst (v := 0) X (pc := 2) dX5_isAhead_2 (by decide) ?_
  refine rb_ldc2 X (pc := 3) dX5_isAhead_3 kX5_166 ?_
  refine rc_callSi X (pc := 6) cvX5_in mX5_48 (qJn (a := (0)) (b := (60)) rfl rfl) (by decide) rfl rfl (Nat.le_of_ble_eq_true rfl) dX5_isAhead_6 ?_
  refine rb_zret (S := []) X (pc := 9) Y dX5_isAhead_9 sp_zn ?_
  exact ⟨by simp only [iN_e], rfl⟩
set_option maxRecDepth 100000 in
set_option maxHeartbeats 1000000 in
theorem qX5_isSoon {G : rb_G} {h : rb_H} (x : Int32) : rb_M G 1 yX5_isSoon cX5_isSoon 1 (some .boolean) [.int x] (h) (rb_F (some (.int (if iN x 20 = true then 1 else 0))) (h)) := by
  refine rb_meth (L := [.int x]) (by decide) (Nat.le_of_ble_eq_true rfl) rfl (fun Z X Y => ?_)
  have X : rb_CX Z G cX5_isSoon 1 RX5 1 := X
  refine rb_iload_n X (pc := 0) dX5_isSoon_0 rfl rfl ?_
  refine rb_i2l X (pc := 1) dX5_isSoon_1 ?_
  refine rb_lconst (v := 0) X (pc := 2) dX5_isSoon_2 (by decide) ?_
  refine rb_ldc2 X (pc := 3) dX5_isSoon_3 kX5_141 ?_
  refine rc_callSi X (pc := 6) cvX5_in mX5_48 (qJn (a := (0)) (b := (20)) rfl rfl) (by decide) rfl rfl (Nat.le_of_ble_eq_true rfl) dX5_isSoon_6 ?_
  refine rb_zret (S := []) X (pc := 9) Y dX5_isSoon_9 sp_zn ?_
  exact ⟨by simp only [iN_e], rfl⟩
set_option maxRecDepth 100000 in
set_option maxHeartbeats 1000000 in
theorem qX5_isRumour {G : rb_G} {h : rb_H} {T : rb_T} (hn : T 4 0 = nI (sp_n T)) (hn10 : sp_n T ≤ 10) (x : Int32) : rb_M G 1 yX5_isRumour cX5_isRumour 2 (some .boolean) [.ref (rb_ad G 9 0), .int x] (ms h T) (rb_F (some (.int (if iR T x = true then 1 else 0))) (ms h T)) := by
  refine rb_meth (L := [.ref (rb_ad G 9 0), .int x]) (by decide) (Nat.le_of_ble_eq_true rfl) rfl (fun Z X Y => ?_)
  have X : rb_CX Z G cX5_isRumour 2 RX5 1 := X
  refine rb_iload_n X (pc := 0) dX5_isRumour_0 rfl rfl ?_
  refine rb_i2l X (pc := 1) dX5_isRumour_1 ?_
  refine rb_lconst (v := 0) X (pc := 2) dX5_isRumour_2 (by decide) ?_
  refine rb_aload_n X (pc := 3) dX5_isRumour_3 rfl rfl ?_
  refine rc_getR X (pc := 4) fX5_7 rb_ob9 rfl dX5_isRumour_4 ?_
  refine rb_iconst (v := 0) X (pc := 7) dX5_isRumour_7 (by decide) ?_
  refine rc_ialdv X (pc := 8) 0 rb_ar9_0 ms_0 rfl (by decide) dX5_isRumour_8 ?_
  refine rb_iconst (v := 1) X (pc := 9) dX5_isRumour_9 (by decide) ?_
  refine rb_isub X (pc := 10) dX5_isRumour_10 ?_
  refine rb_i2l X (pc := 11) dX5_isRumour_11 ?_
  refine rc_callSi X (pc := 12) cvX5_in mX5_48 (qJn (a := (0)) (b := _) rfl rfl) (by decide) rfl rfl (Nat.le_of_ble_eq_true rfl) dX5_isRumour_12 ?_
  refine rb_zret (S := []) X (pc := 15) Y dX5_isRumour_15 sp_zn ?_
  exact ⟨by simp only [iR_e hn hn10], rfl⟩
set_option maxRecDepth 100000 in
set_option maxHeartbeats 1000000 in
theorem qX5_finds {G : rb_G} {h : rb_H} {w : Int32} {i : Nat} (hi : i < 7) (hw : -1000000001 - w = nI i) : rb_M G 0 yX5_finds cX5_finds 2 (some .int) [.ref (rb_ad G 9 0), .int w] (h) (rb_F (some (.int (w))) (rb_u h 9 4 i (h.1 9 4 i + 1))) := by
  refine rb_meth (L := [.ref (rb_ad G 9 0), .int w]) (by decide) (Nat.le_of_ble_eq_true rfl) rfl (fun Z X Y => ?_)
  have X : rb_CX Z G cX5_finds 2 RX5 0 := X
  refine rb_aload_n X (pc := 0) dX5_finds_0 rfl rfl ?_
  refine rc_getR X (pc := 1) fX5_22 rb_ob9 rfl dX5_finds_1 ?_
  refine rb_ldc X (pc := 4) dX5_finds_4 kX5_45 ?_
  refine rb_iload_n X (pc := 6) dX5_finds_6 rfl rfl ?_
  refine rb_isub X (pc := 7) dX5_finds_7 ?_
  refine rb_dup2 X (pc := 8) dX5_finds_8 rfl rfl ?_
  refine rc_iald X (pc := 9) i rb_ar9_4 rfl hw hi dX5_finds_9 ?_
  refine rb_iconst (v := 1) X (pc := 10) dX5_finds_10 (by decide) ?_
  refine rb_iadd X (pc := 11) dX5_finds_11 ?_
  refine rc_iast X (pc := 12) i rb_ar9_4 rfl hw hi dX5_finds_12 ?_
  refine rb_iload_n X (pc := 13) dX5_finds_13 rfl rfl ?_
  refine rb_iret (S := []) X (pc := 14) Y dX5_finds_14 ?_
  exact ⟨rfl, rfl⟩
set_option maxRecDepth 100000 in
set_option maxHeartbeats 1000000 in
theorem qX5_spotOf {G : rb_G} {h : rb_H} {r w : Nat} : rb_M G 0 yX5_spotOf cX5_spotOf 2 (some .int) [.int (nI r), .int (nI w)] (h) (rb_F (some (.int (nI (27 + 5 * r + w)))) (h)) := by
  refine rb_meth (L := [.int (nI r), .int (nI w)]) (by decide) (Nat.le_of_ble_eq_true rfl) rfl (fun Z X Y => ?_)
  have X : rb_CX Z G cX5_spotOf 2 RX5 0 := X
  refine rb_bipush (v := 27) X (pc := 0) dX5_spotOf_0 (by decide) ?_
  refine rb_iconst (v := 5) X (pc := 2) dX5_spotOf_2 (by decide) ?_
  refine rb_iload_n X (pc := 3) dX5_spotOf_3 rfl rfl ?_
  refine rb_imul X (pc := 4) dX5_spotOf_4 ?_
  refine rb_iadd X (pc := 5) dX5_spotOf_5 ?_
  refine rb_iload_n X (pc := 6) dX5_spotOf_6 rfl rfl ?_
  refine rb_iadd X (pc := 7) dX5_spotOf_7 ?_
  refine rb_iret (S := []) X (pc := 8) Y dX5_spotOf_8 ?_
  exact ⟨by rw [← sp_spot], rfl⟩
set_option maxRecDepth 100000 in
set_option maxHeartbeats 1000000 in
theorem qX5_partOf {G : rb_G} {h : rb_H} {r w : Nat} : rb_M G 0 yX5_partOf cX5_partOf 2 (some .int) [.int (nI r), .int (nI w)] (h) (rb_F (some (.int (nI (3 + 3 * r + w)))) (h)) := by
  refine rb_meth (L := [.int (nI r), .int (nI w)]) (by decide) (Nat.le_of_ble_eq_true rfl) rfl (fun Z X Y => ?_)
  have X : rb_CX Z G cX5_partOf 2 RX5 0 := X
  refine rb_iconst (v := 3) X (pc := 0) dX5_partOf_0 (by decide) ?_
  refine rb_iconst (v := 3) X (pc := 1) dX5_partOf_1 (by decide) ?_
  refine rb_iload_n X (pc := 2) dX5_partOf_2 rfl rfl ?_
  refine rb_imul X (pc := 3) dX5_partOf_3 ?_
  refine rb_iadd X (pc := 4) dX5_partOf_4 ?_
  refine rb_iload_n X (pc := 5) dX5_partOf_5 rfl rfl ?_
  refine rb_iadd X (pc := 6) dX5_partOf_6 ?_
  refine rb_iret (S := []) X (pc := 7) Y dX5_partOf_7 ?_
  exact ⟨by rw [← sp_part], rfl⟩
set_option maxRecDepth 100000 in
set_option maxHeartbeats 1000000 in
theorem qX5_its {G : rb_G} {h : rb_H} {T : rb_T} {r w : Nat} (hr : r < 10) (hw : w < 5) : rb_M G 1 yX5_its cX5_its 3 (some .int) [.ref (rb_ad G 9 0), .int (nI r), .int (nI w)] (ms h T) (rb_F (some (.int (T (5 + w) r))) (ms h T)) := by
  refine rb_meth (L := [.ref (rb_ad G 9 0), .int (nI r), .int (nI w)]) (by decide) (Nat.le_of_ble_eq_true rfl) rfl (fun Z X Y => ?_)
  have X : rb_CX Z G cX5_its 3 RX5 1 := X
  refine rb_aload_n X (pc := 0) dX5_its_0 rfl rfl ?_
  refine rc_getR X (pc := 1) fX5_7 rb_ob9 rfl dX5_its_1 ?_
  refine rb_iload_n X (pc := 4) dX5_its_4 rfl rfl ?_
  refine rb_iload_n X (pc := 5) dX5_its_5 rfl rfl ?_
  refine rc_callSi X (pc := 6) cvX5_spotOf mX5_56 qX5_spotOf (by decide) rfl rfl (Nat.le_of_ble_eq_true rfl) dX5_its_6 ?_
  refine rc_ialdv X (pc := 9) _ rb_ar9_0 ((congrFun ms_at _).trans (enc_r hr hw)) rfl (by omega) dX5_its_9 ?_
  refine rb_iret (S := []) X (pc := 10) Y dX5_its_10 ?_
  exact ⟨rfl, rfl⟩
set_option maxRecDepth 100000 in
set_option maxHeartbeats 1000000 in
theorem qX5_has {G : rb_G} {h : rb_H} {T : rb_T} {q w : Nat} (hq : q < 8) (hw : w < 3) : rb_M G 1 yX5_has cX5_has 3 (some .int) [.ref (rb_ad G 9 0), .int (nI q), .int (nI w)] (ms h T) (rb_F (some (.int (T w q))) (ms h T)) := by
  refine rb_meth (L := [.ref (rb_ad G 9 0), .int (nI q), .int (nI w)]) (by decide) (Nat.le_of_ble_eq_true rfl) rfl (fun Z X Y => ?_)
  have X : rb_CX Z G cX5_has 3 RX5 1 := X
  refine rb_aload_n X (pc := 0) dX5_has_0 rfl rfl ?_
  refine rc_getR X (pc := 1) fX5_7 rb_ob9 rfl dX5_has_1 ?_
  refine rb_iload_n X (pc := 4) dX5_has_4 rfl rfl ?_
  refine rb_iload_n X (pc := 5) dX5_has_5 rfl rfl ?_
  refine rc_callSi X (pc := 6) cvX5_partOf mX5_41 qX5_partOf (by decide) rfl rfl (Nat.le_of_ble_eq_true rfl) dX5_has_6 ?_
  refine rc_ialdv X (pc := 9) _ rb_ar9_0 ((congrFun ms_at _).trans (enc_h hq hw)) rfl (by omega) dX5_has_9 ?_
  refine rb_iret (S := []) X (pc := 10) Y dX5_has_10 ?_
  exact ⟨rfl, rfl⟩
theorem qI0 {G : rb_G} {h : rb_H} {T : rb_T} {r : Nat} (hr : r < 10) : rb_M G 1 yX5_its cX5_its 3 (some .int) [.ref (rb_ad G 9 0), .int (nI r), .int 0] (ms h T) (rb_F (some (.int (T 5 r))) (ms h T)) := qX5_its (w := 0) hr (by decide)
theorem qI1 {G : rb_G} {h : rb_H} {T : rb_T} {r : Nat} (hr : r < 10) : rb_M G 1 yX5_its cX5_its 3 (some .int) [.ref (rb_ad G 9 0), .int (nI r), .int 1] (ms h T) (rb_F (some (.int (T 6 r))) (ms h T)) := qX5_its (w := 1) hr (by decide)
theorem qI2 {G : rb_G} {h : rb_H} {T : rb_T} {r : Nat} (hr : r < 10) : rb_M G 1 yX5_its cX5_its 3 (some .int) [.ref (rb_ad G 9 0), .int (nI r), .int 2] (ms h T) (rb_F (some (.int (T 7 r))) (ms h T)) := qX5_its (w := 2) hr (by decide)
theorem qI3 {G : rb_G} {h : rb_H} {T : rb_T} {r : Nat} (hr : r < 10) : rb_M G 1 yX5_its cX5_its 3 (some .int) [.ref (rb_ad G 9 0), .int (nI r), .int 3] (ms h T) (rb_F (some (.int (T 8 r))) (ms h T)) := qX5_its (w := 3) hr (by decide)
theorem qI4 {G : rb_G} {h : rb_H} {T : rb_T} {r : Nat} (hr : r < 10) : rb_M G 1 yX5_its cX5_its 3 (some .int) [.ref (rb_ad G 9 0), .int (nI r), .int 4] (ms h T) (rb_F (some (.int (T 9 r))) (ms h T)) := qX5_its (w := 4) hr (by decide)
theorem qH0 {G : rb_G} {h : rb_H} {T : rb_T} {q : Nat} (hq : q < 8) : rb_M G 1 yX5_has cX5_has 3 (some .int) [.ref (rb_ad G 9 0), .int (nI q), .int 0] (ms h T) (rb_F (some (.int (T 0 q))) (ms h T)) := qX5_has (w := 0) hq (by decide)
theorem qH1 {G : rb_G} {h : rb_H} {T : rb_T} {q : Nat} (hq : q < 8) : rb_M G 1 yX5_has cX5_has 3 (some .int) [.ref (rb_ad G 9 0), .int (nI q), .int 1] (ms h T) (rb_F (some (.int (T 1 q))) (ms h T)) := qX5_has (w := 1) hq (by decide)
theorem qH2 {G : rb_G} {h : rb_H} {T : rb_T} {q : Nat} (hq : q < 8) : rb_M G 1 yX5_has cX5_has 3 (some .int) [.ref (rb_ad G 9 0), .int (nI q), .int 2] (ms h T) (rb_F (some (.int (T 2 q))) (ms h T)) := qX5_has (w := 2) hq (by decide)
set_option maxRecDepth 100000 in
set_option maxHeartbeats 1000000 in
theorem qX5_becomes {G : rb_G} {h : rb_H} {T : rb_T} {k : Nat} {v : Int32} (hk : k < 77) : rb_M G 0 yX5_becomes cX5_becomes 4 (some .int) [.ref (rb_ad G 9 0), .int (nI k), .int v] (ms h T) (rb_F (some (.int (enc T k))) (rb_row h 9 0 (va_up (enc T) k v))) := by
  refine rb_meth (L := [.ref (rb_ad G 9 0), .int (nI k), .int v, .null]) (by decide) (Nat.le_of_ble_eq_true rfl) rfl (fun Z X Y => ?_)
  have X : rb_CX Z G cX5_becomes 4 RX5 0 := X
  refine rb_aload_n X (pc := 0) dX5_becomes_0 rfl rfl ?_
  refine rc_getR X (pc := 1) fX5_7 rb_ob9 rfl dX5_becomes_1 ?_
  refine rb_iload_n X (pc := 4) dX5_becomes_4 rfl rfl ?_
  refine rc_ialdv X (pc := 5) k rb_ar9_0 (congrFun ms_at _) rfl hk dX5_becomes_5 ?_
  refine rb_istore_n X (pc := 6) dX5_becomes_6 rfl (by decide) rfl rfl ?_
  refine rb_aload_n X (pc := 7) dX5_becomes_7 rfl rfl ?_
  refine rc_getR X (pc := 8) fX5_7 rb_ob9 rfl dX5_becomes_8 ?_
  refine rb_iload_n X (pc := 11) dX5_becomes_11 rfl rfl ?_
  refine rb_iload_n X (pc := 12) dX5_becomes_12 rfl rfl ?_
  refine rc_iast X (pc := 13) k rb_ar9_0 ms_u rfl hk dX5_becomes_13 ?_
  refine rb_iload_n X (pc := 14) dX5_becomes_14 rfl rfl ?_
  refine rb_iret (S := []) X (pc := 15) Y dX5_becomes_15 ?_
  exact ⟨rfl, rfl⟩
theorem qBh {G : rb_G} {h : rb_H} {T : rb_T} {q w : Nat} {v : Int32} (hq : q < 8) (hw : w < 3) : rb_M G 0 yX5_becomes cX5_becomes 4 (some .int) [.ref (rb_ad G 9 0), .int (nI (3 + 3 * q + w)), .int v] (ms h T) (rb_F (some (.int (T w q))) (ms h (u2 T w q v))) := by
  have e := qX5_becomes (G := G) (h := h) (T := T) (v := v) (k := 3 + 3 * q + w) (by omega)
  rw [enc_h hq hw, enc_uh hq hw] at e
  exact e
theorem qBr {G : rb_G} {h : rb_H} {T : rb_T} {r w : Nat} {v : Int32} (hr : r < 10) (hw : w < 5) : rb_M G 0 yX5_becomes cX5_becomes 4 (some .int) [.ref (rb_ad G 9 0), .int (nI (27 + 5 * r + w)), .int v] (ms h T) (rb_F (some (.int (T (5 + w) r))) (ms h (u2 T (5 + w) r v))) := by
  have e := qX5_becomes (G := G) (h := h) (T := T) (v := v) (k := 27 + 5 * r + w) (by omega)
  rw [enc_r hr hw, enc_ur hr hw] at e
  exact e
theorem cpy_X5_saves {h : rb_H} {f : Nat → Int32} {i : Nat} (hf : h.1 9 0 = f) : rb_u (rb_row h 9 2 (va_cpy f (h.1 9 2) 0 0 i)) 9 2 i (f i) = rb_row h 9 2 (va_cpy f (h.1 9 2) 0 0 (i + 1)) := by
  rw [rb_u_row, rb_row_same, rb_row_row]
  congr 1
  funext k
  simp only [va_up, va_cpy, Nat.zero_le, true_and, Nat.zero_add, Nat.sub_zero]
  by_cases e : k = i
  · subst e; simp
  · have : (k < i + 1) ↔ k < i := by omega
    simp [e, this]
set_option maxRecDepth 100000 in
set_option maxHeartbeats 1000000 in
theorem lpX5_saves_2 {Z : rb_Z} {G : rb_G} {h : rb_H} {f : Nat → Int32} (hf : h.1 9 0 = f) (X : rb_CX Z G cX5_saves 2 RX5 0) (Y : rb_RT Z G none (rb_F none (rb_row h 9 2 f))) : ∀ fu : Nat, ∀ i : Nat, i ≤ 77 → 78 ≤ i + fu → rb_WP Z G 2 2 [.ref (rb_ad G 9 0), .int (nI i)] [] (rb_row h 9 2 (va_cpy f (h.1 9 2) 0 0 i)) := by
  intro fu
  induction fu with
  | zero => intro i hi hg; omega
  | succ fu ih =>
    intro i hi hg
    refine rb_iload_n X (pc := 2) dX5_saves_2 rfl rfl ?_
    refine rb_bipush (v := 77) X (pc := 3) dX5_saves_3 (by decide) ?_
    refine rb_icmp_ge X (pc := 5) (tgt := 26) dX5_saves_5 (by decide) (fun c5 => ?_) (fun c5 => ?_)
    · have hi2 := (sp_geI (n := 77) rfl (by omega) (by omega)).mp c5
      obtain rfl : i = 77 := by omega
      refine rb_rowC (g := f) rb_ar9_2.1 rb_ar9_2.2 (fun k hk => by simp [va_cpy, hk]) ?_
      refine rb_vret (S := []) X (pc := 26) Y dX5_saves_26 ?_
      exact ⟨rfl, rfl⟩
    · have hi2 : i < 77 := Nat.lt_of_not_le (fun z => c5 ((sp_geI (n := 77) rfl (by omega) (by omega)).mpr z))
      refine rb_aload_n X (pc := 8) dX5_saves_8 rfl rfl ?_
      refine rc_getR X (pc := 9) fX5_16 rb_ob9 rfl dX5_saves_9 ?_
      refine rb_iload_n X (pc := 12) dX5_saves_12 rfl rfl ?_
      refine rb_aload_n X (pc := 13) dX5_saves_13 rfl rfl ?_
      refine rc_getR X (pc := 14) fX5_7 rb_ob9 rfl dX5_saves_14 ?_
      refine rb_iload_n X (pc := 17) dX5_saves_17 rfl rfl ?_
      refine rc_ialdv X (pc := 18) i rb_ar9_0 (congrFun ((rb_row_ne (fun z => absurd z.2 (by decide))).trans hf) _) rfl (by omega) dX5_saves_18 ?_
      refine rc_iast X (pc := 19) i rb_ar9_2 (cpy_X5_saves hf) rfl (by omega) dX5_saves_19 ?_
      refine rb_iinc X (pc := 20) dX5_saves_20 rfl (sp_inc _) (by decide) rfl rfl ?_
      refine rb_goto X (pc := 23) (tgt := 2) dX5_saves_23 (by decide) ?_
      exact sp_go rfl rfl (ih (i + 1) (by omega) (by omega))
set_option maxRecDepth 100000 in
set_option maxHeartbeats 1000000 in
theorem qX5_saves {G : rb_G} {h : rb_H} {f : Nat → Int32} (hf : h.1 9 0 = f) : rb_M G 0 yX5_saves cX5_saves 2 none [.ref (rb_ad G 9 0)] (h) (rb_F none (rb_row h 9 2 f)) := by
  refine rb_meth (L := [.ref (rb_ad G 9 0), .null]) (by decide) (Nat.le_of_ble_eq_true rfl) rfl (fun Z X Y => ?_)
  have X : rb_CX Z G cX5_saves 2 RX5 0 := X
  refine rb_iconst (v := 0) X (pc := 0) dX5_saves_0 (by decide) ?_
  refine rb_istore_n X (pc := 1) dX5_saves_1 rfl (by decide) rfl rfl ?_
  exact sp_go rfl (by rw [show va_cpy f (h.1 9 2) 0 0 0 = h.1 9 2 from by funext k; simp [va_cpy], rb_row_self rfl]) (lpX5_saves_2 hf X Y 78 0 (by omega) (by omega))
theorem cpy_X5_putsBack {h : rb_H} {f : Nat → Int32} {i : Nat} (hf : h.1 9 2 = f) : rb_u (rb_row h 9 0 (va_cpy f (h.1 9 0) 0 0 i)) 9 0 i (f i) = rb_row h 9 0 (va_cpy f (h.1 9 0) 0 0 (i + 1)) := by
  rw [rb_u_row, rb_row_same, rb_row_row]
  congr 1
  funext k
  simp only [va_up, va_cpy, Nat.zero_le, true_and, Nat.zero_add, Nat.sub_zero]
  by_cases e : k = i
  · subst e; simp
  · have : (k < i + 1) ↔ k < i := by omega
    simp [e, this]
set_option maxRecDepth 100000 in
set_option maxHeartbeats 1000000 in
theorem lpX5_putsBack_2 {Z : rb_Z} {G : rb_G} {h : rb_H} {f : Nat → Int32} (hf : h.1 9 2 = f) (X : rb_CX Z G cX5_putsBack 2 RX5 0) (Y : rb_RT Z G none (rb_F none (rb_row h 9 0 f))) : ∀ fu : Nat, ∀ i : Nat, i ≤ 77 → 78 ≤ i + fu → rb_WP Z G 2 2 [.ref (rb_ad G 9 0), .int (nI i)] [] (rb_row h 9 0 (va_cpy f (h.1 9 0) 0 0 i)) := by
  intro fu
  induction fu with
  | zero => intro i hi hg; omega
  | succ fu ih =>
    intro i hi hg
    refine rb_iload_n X (pc := 2) dX5_putsBack_2 rfl rfl ?_
    refine rb_bipush (v := 77) X (pc := 3) dX5_putsBack_3 (by decide) ?_
    refine rb_icmp_ge X (pc := 5) (tgt := 26) dX5_putsBack_5 (by decide) (fun c5 => ?_) (fun c5 => ?_)
    · have hi2 := (sp_geI (n := 77) rfl (by omega) (by omega)).mp c5
      obtain rfl : i = 77 := by omega
      refine rb_rowC (g := f) rb_ar9_0.1 rb_ar9_0.2 (fun k hk => by simp [va_cpy, hk]) ?_
      refine rb_vret (S := []) X (pc := 26) Y dX5_putsBack_26 ?_
      exact ⟨rfl, rfl⟩
    · have hi2 : i < 77 := Nat.lt_of_not_le (fun z => c5 ((sp_geI (n := 77) rfl (by omega) (by omega)).mpr z))
      refine rb_aload_n X (pc := 8) dX5_putsBack_8 rfl rfl ?_
      refine rc_getR X (pc := 9) fX5_7 rb_ob9 rfl dX5_putsBack_9 ?_
      refine rb_iload_n X (pc := 12) dX5_putsBack_12 rfl rfl ?_
      refine rb_aload_n X (pc := 13) dX5_putsBack_13 rfl rfl ?_
      refine rc_getR X (pc := 14) fX5_16 rb_ob9 rfl dX5_putsBack_14 ?_
      refine rb_iload_n X (pc := 17) dX5_putsBack_17 rfl rfl ?_
      refine rc_iald X (pc := 18) i rb_ar9_2 ((rb_row_ne (fun z => absurd z.2 (by decide))).trans hf) rfl (by omega) dX5_putsBack_18 ?_
      refine rc_iast X (pc := 19) i rb_ar9_0 (cpy_X5_putsBack hf) rfl (by omega) dX5_putsBack_19 ?_
      refine rb_iinc X (pc := 20) dX5_putsBack_20 rfl (sp_inc _) (by decide) rfl rfl ?_
      refine rb_goto X (pc := 23) (tgt := 2) dX5_putsBack_23 (by decide) ?_
      exact sp_go rfl rfl (ih (i + 1) (by omega) (by omega))
set_option maxRecDepth 100000 in
set_option maxHeartbeats 1000000 in
theorem qX5_putsBack {G : rb_G} {h : rb_H} {f : Nat → Int32} (hf : h.1 9 2 = f) : rb_M G 0 yX5_putsBack cX5_putsBack 2 none [.ref (rb_ad G 9 0)] (h) (rb_F none (rb_row h 9 0 f)) := by
  refine rb_meth (L := [.ref (rb_ad G 9 0), .null]) (by decide) (Nat.le_of_ble_eq_true rfl) rfl (fun Z X Y => ?_)
  have X : rb_CX Z G cX5_putsBack 2 RX5 0 := X
  refine rb_iconst (v := 0) X (pc := 0) dX5_putsBack_0 (by decide) ?_
  refine rb_istore_n X (pc := 1) dX5_putsBack_1 rfl (by decide) rfl rfl ?_
  exact sp_go rfl (by rw [show va_cpy f (h.1 9 0) 0 0 0 = h.1 9 0 from by funext k; simp [va_cpy], rb_row_self rfl]) (lpX5_putsBack_2 hf X Y 78 0 (by omega) (by omega))
theorem cpy_X5_laysAside {h : rb_H} {f : Nat → Int32} {i : Nat} (hf : h.1 9 0 = f) : rb_u (rb_row h 9 3 (va_cpy f (h.1 9 3) 0 0 i)) 9 3 i (f i) = rb_row h 9 3 (va_cpy f (h.1 9 3) 0 0 (i + 1)) := by
  rw [rb_u_row, rb_row_same, rb_row_row]
  congr 1
  funext k
  simp only [va_up, va_cpy, Nat.zero_le, true_and, Nat.zero_add, Nat.sub_zero]
  by_cases e : k = i
  · subst e; simp
  · have : (k < i + 1) ↔ k < i := by omega
    simp [e, this]
set_option maxRecDepth 100000 in
set_option maxHeartbeats 1000000 in
theorem lpX5_laysAside_2 {Z : rb_Z} {G : rb_G} {h : rb_H} {f : Nat → Int32} (hf : h.1 9 0 = f) (X : rb_CX Z G cX5_laysAside 2 RX5 0) (Y : rb_RT Z G none (rb_F none (rb_row h 9 3 f))) : ∀ fu : Nat, ∀ i : Nat, i ≤ 77 → 78 ≤ i + fu → rb_WP Z G 2 2 [.ref (rb_ad G 9 0), .int (nI i)] [] (rb_row h 9 3 (va_cpy f (h.1 9 3) 0 0 i)) := by
  intro fu
  induction fu with
  | zero => intro i hi hg; omega
  | succ fu ih =>
    intro i hi hg
    refine rb_iload_n X (pc := 2) dX5_laysAside_2 rfl rfl ?_
    refine rb_bipush (v := 77) X (pc := 3) dX5_laysAside_3 (by decide) ?_
    refine rb_icmp_ge X (pc := 5) (tgt := 26) dX5_laysAside_5 (by decide) (fun c5 => ?_) (fun c5 => ?_)
    · have hi2 := (sp_geI (n := 77) rfl (by omega) (by omega)).mp c5
      obtain rfl : i = 77 := by omega
      refine rb_rowC (g := f) rb_ar9_3.1 rb_ar9_3.2 (fun k hk => by simp [va_cpy, hk]) ?_
      refine rb_vret (S := []) X (pc := 26) Y dX5_laysAside_26 ?_
      exact ⟨rfl, rfl⟩
    · have hi2 : i < 77 := Nat.lt_of_not_le (fun z => c5 ((sp_geI (n := 77) rfl (by omega) (by omega)).mpr z))
      refine rb_aload_n X (pc := 8) dX5_laysAside_8 rfl rfl ?_
      refine rc_getR X (pc := 9) fX5_19 rb_ob9 rfl dX5_laysAside_9 ?_
      refine rb_iload_n X (pc := 12) dX5_laysAside_12 rfl rfl ?_
      refine rb_aload_n X (pc := 13) dX5_laysAside_13 rfl rfl ?_
      refine rc_getR X (pc := 14) fX5_7 rb_ob9 rfl dX5_laysAside_14 ?_
      refine rb_iload_n X (pc := 17) dX5_laysAside_17 rfl rfl ?_
      refine rc_ialdv X (pc := 18) i rb_ar9_0 (congrFun ((rb_row_ne (fun z => absurd z.2 (by decide))).trans hf) _) rfl (by omega) dX5_laysAside_18 ?_
      refine rc_iast X (pc := 19) i rb_ar9_3 (cpy_X5_laysAside hf) rfl (by omega) dX5_laysAside_19 ?_
      refine rb_iinc X (pc := 20) dX5_laysAside_20 rfl (sp_inc _) (by decide) rfl rfl ?_
      refine rb_goto X (pc := 23) (tgt := 2) dX5_laysAside_23 (by decide) ?_
      exact sp_go rfl rfl (ih (i + 1) (by omega) (by omega))
set_option maxRecDepth 100000 in
set_option maxHeartbeats 1000000 in
theorem qX5_laysAside {G : rb_G} {h : rb_H} {f : Nat → Int32} (hf : h.1 9 0 = f) : rb_M G 0 yX5_laysAside cX5_laysAside 2 none [.ref (rb_ad G 9 0)] (h) (rb_F none (rb_row h 9 3 f)) := by
  refine rb_meth (L := [.ref (rb_ad G 9 0), .null]) (by decide) (Nat.le_of_ble_eq_true rfl) rfl (fun Z X Y => ?_)
  have X : rb_CX Z G cX5_laysAside 2 RX5 0 := X
  refine rb_iconst (v := 0) X (pc := 0) dX5_laysAside_0 (by decide) ?_
  refine rb_istore_n X (pc := 1) dX5_laysAside_1 rfl (by decide) rfl rfl ?_
  exact sp_go rfl (by rw [show va_cpy f (h.1 9 3) 0 0 0 = h.1 9 3 from by funext k; simp [va_cpy], rb_row_self rfl]) (lpX5_laysAside_2 hf X Y 78 0 (by omega) (by omega))
theorem cpy_X5_takesBack {h : rb_H} {f : Nat → Int32} {i : Nat} (hf : h.1 9 3 = f) : rb_u (rb_row h 9 0 (va_cpy f (h.1 9 0) 0 0 i)) 9 0 i (f i) = rb_row h 9 0 (va_cpy f (h.1 9 0) 0 0 (i + 1)) := by
  rw [rb_u_row, rb_row_same, rb_row_row]
  congr 1
  funext k
  simp only [va_up, va_cpy, Nat.zero_le, true_and, Nat.zero_add, Nat.sub_zero]
  by_cases e : k = i
  · subst e; simp
  · have : (k < i + 1) ↔ k < i := by omega
    simp [e, this]
set_option maxRecDepth 100000 in
set_option maxHeartbeats 1000000 in
theorem lpX5_takesBack_2 {Z : rb_Z} {G : rb_G} {h : rb_H} {f : Nat → Int32} (hf : h.1 9 3 = f) {v : Int32} (X : rb_CX Z G cX5_takesBack 3 RX5 0) (Y : rb_RT Z G (some .int) (rb_F (some (.int v)) (rb_row h 9 0 f))) : ∀ fu : Nat, ∀ i : Nat, i ≤ 77 → 78 ≤ i + fu → rb_WP Z G 3 2 [.ref (rb_ad G 9 0), .int v, .int (nI i)] [] (rb_row h 9 0 (va_cpy f (h.1 9 0) 0 0 i)) := by
  intro fu
  induction fu with
  | zero => intro i hi hg; omega
  | succ fu ih =>
    intro i hi hg
    refine rb_iload_n X (pc := 2) dX5_takesBack_2 rfl rfl ?_
    refine rb_bipush (v := 77) X (pc := 3) dX5_takesBack_3 (by decide) ?_
    refine rb_icmp_ge X (pc := 5) (tgt := 26) dX5_takesBack_5 (by decide) (fun c5 => ?_) (fun c5 => ?_)
    · have hi2 := (sp_geI (n := 77) rfl (by omega) (by omega)).mp c5
      obtain rfl : i = 77 := by omega
      refine rb_rowC (g := f) rb_ar9_0.1 rb_ar9_0.2 (fun k hk => by simp [va_cpy, hk]) ?_
      refine rb_iload_n X (pc := 26) dX5_takesBack_26 rfl rfl ?_
      refine rb_iret (S := []) X (pc := 27) Y dX5_takesBack_27 ?_
      exact ⟨rfl, rfl⟩
    · have hi2 : i < 77 := Nat.lt_of_not_le (fun z => c5 ((sp_geI (n := 77) rfl (by omega) (by omega)).mpr z))
      refine rb_aload_n X (pc := 8) dX5_takesBack_8 rfl rfl ?_
      refine rc_getR X (pc := 9) fX5_7 rb_ob9 rfl dX5_takesBack_9 ?_
      refine rb_iload_n X (pc := 12) dX5_takesBack_12 rfl rfl ?_
      refine rb_aload_n X (pc := 13) dX5_takesBack_13 rfl rfl ?_
      refine rc_getR X (pc := 14) fX5_19 rb_ob9 rfl dX5_takesBack_14 ?_
      refine rb_iload_n X (pc := 17) dX5_takesBack_17 rfl rfl ?_
      refine rc_iald X (pc := 18) i rb_ar9_3 ((rb_row_ne (fun z => absurd z.2 (by decide))).trans hf) rfl (by omega) dX5_takesBack_18 ?_
      refine rc_iast X (pc := 19) i rb_ar9_0 (cpy_X5_takesBack hf) rfl (by omega) dX5_takesBack_19 ?_
      refine rb_iinc X (pc := 20) dX5_takesBack_20 rfl (sp_inc _) (by decide) rfl rfl ?_
      refine rb_goto X (pc := 23) (tgt := 2) dX5_takesBack_23 (by decide) ?_
      exact sp_go rfl rfl (ih (i + 1) (by omega) (by omega))
set_option maxRecDepth 100000 in
set_option maxHeartbeats 1000000 in
theorem qX5_takesBack {G : rb_G} {h : rb_H} {f : Nat → Int32} (hf : h.1 9 3 = f) {v : Int32} : rb_M G 0 yX5_takesBack cX5_takesBack 3 (some .int) [.ref (rb_ad G 9 0), .int v] (h) (rb_F (some (.int v)) (rb_row h 9 0 f)) := by
  refine rb_meth (L := [.ref (rb_ad G 9 0), .int v, .null]) (by decide) (Nat.le_of_ble_eq_true rfl) rfl (fun Z X Y => ?_)
  have X : rb_CX Z G cX5_takesBack 3 RX5 0 := X
  refine rb_iconst (v := 0) X (pc := 0) dX5_takesBack_0 (by decide) ?_
  refine rb_istore_n X (pc := 1) dX5_takesBack_1 rfl (by decide) rfl rfl ?_
  exact sp_go rfl (by rw [show va_cpy f (h.1 9 0) 0 0 0 = h.1 9 0 from by funext k; simp [va_cpy], rb_row_self rfl]) (lpX5_takesBack_2 hf X Y 78 0 (by omega) (by omega))
