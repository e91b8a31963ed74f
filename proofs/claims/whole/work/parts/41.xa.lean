set_option maxRecDepth 100000 in
set_option maxHeartbeats 1000000 in
theorem qX4_isHouse {G : rb_G} {h : rb_H} (x : Int32) : rb_M G 0 yX4_isHouse cX4_isHouse 1 (some .boolean) [.int x] (h) (rb_F (some (.int (if iH x = true then 1 else 0))) (h)) := by
  refine rb_meth (L := [.int x]) (by decide) (Nat.le_of_ble_eq_true rfl) rfl (fun Z X Y => ?_)
  have X : rb_CX Z G cX4_isHouse 1 RX4 0 := X
  refine rb_iload_n X (pc := 0) dX4_isHouse_0 rfl rfl ?_
  refine rb_if_lt X (pc := 1) (tgt := 14) dX4_isHouse_1 (by decide) (fun c1 => ?_) (fun c1 => ?_)
  · have c1 := Int32.not_le.mpr c1
    refine rb_iconst (v := 0) X (pc := 14) dX4_isHouse_14 (by decide) ?_
    refine rb_zret (S := []) X (pc := 15) Y dX4_isHouse_15 rfl ?_
    exact ⟨by simp [iH, *], rfl⟩
  · have c1 := Int32.not_lt.mp c1
    refine rb_iload_n X (pc := 4) dX4_isHouse_4 rfl rfl ?_
    refine rb_bipush (v := 8) X (pc := 5) dX4_isHouse_5 (by decide) ?_
    refine rb_icmp_ge X (pc := 7) (tgt := 14) dX4_isHouse_7 (by decide) (fun c7 => ?_) (fun c7 => ?_)
    · have c7 := Int32.not_lt.mpr c7
      refine rb_iconst (v := 0) X (pc := 14) dX4_isHouse_14 (by decide) ?_
      refine rb_zret (S := []) X (pc := 15) Y dX4_isHouse_15 rfl ?_
      exact ⟨by simp [iH, *], rfl⟩
    · have c7 := Int32.not_le.mp c7
      refine rb_iconst (v := 1) X (pc := 10) dX4_isHouse_10 (by decide) ?_
      refine rb_goto X (pc := 11) (tgt := 15) dX4_isHouse_11 (by decide) ?_
      refine rb_zret (S := []) X (pc := 15) Y dX4_isHouse_15 rfl ?_
      exact ⟨by simp [iH, *], rfl⟩
set_option maxRecDepth 100000 in
set_option maxHeartbeats 1000000 in
theorem qX4_isKind {G : rb_G} {h : rb_H} (x : Int32) : rb_M G 0 yX4_isKind cX4_isKind 1 (some .boolean) [.int x] (h) (rb_F (some (.int (if iK x = true then 1 else 0))) (h)) := by
  refine rb_meth (L := [.int x]) (by decide) (Nat.le_of_ble_eq_true rfl) rfl (fun Z X Y => ?_)
  have X : rb_CX Z G cX4_isKind 1 RX4 0 := X
  refine rb_iload_n X (pc := 0) dX4_isKind_0 rfl rfl ?_
  refine rb_if_lt X (pc := 1) (tgt := 14) dX4_isKind_1 (by decide) (fun c1 => ?_) (fun c1 => ?_)
  · have c1 := Int32.not_le.mpr c1
    refine rb_iconst (v := 0) X (pc := 14) dX4_isKind_14 (by decide) ?_
    refine rb_zret (S := []) X (pc := 15) Y dX4_isKind_15 rfl ?_
    exact ⟨by simp [iK, *], rfl⟩
  · have c1 := Int32.not_lt.mp c1
    refine rb_iload_n X (pc := 4) dX4_isKind_4 rfl rfl ?_
    refine rb_bipush (v := 6) X (pc := 5) dX4_isKind_5 (by decide) ?_
    refine rb_icmp_ge X (pc := 7) (tgt := 14) dX4_isKind_7 (by decide) (fun c7 => ?_) (fun c7 => ?_)
    · have c7 := Int32.not_lt.mpr c7
      refine rb_iconst (v := 0) X (pc := 14) dX4_isKind_14 (by decide) ?_
      refine rb_zret (S := []) X (pc := 15) Y dX4_isKind_15 rfl ?_
      exact ⟨by simp [iK, *], rfl⟩
    · have c7 := Int32.not_le.mp c7
      refine rb_iconst (v := 1) X (pc := 10) dX4_isKind_10 (by decide) ?_
      refine rb_goto X (pc := 11) (tgt := 15) dX4_isKind_11 (by decide) ?_
      refine rb_zret (S := []) X (pc := 15) Y dX4_isKind_15 rfl ?_
      exact ⟨by simp [iK, *], rfl⟩
set_option maxRecDepth 100000 in
set_option maxHeartbeats 1000000 in
theorem qX4_isEvent {G : rb_G} {h : rb_H} (x : Int32) : rb_M G 0 yX4_isEvent cX4_isEvent 1 (some .boolean) [.int x] (h) (rb_F (some (.int (if iE x = true then 1 else 0))) (h)) := by
  refine rb_meth (L := [.int x]) (by decide) (Nat.le_of_ble_eq_true rfl) rfl (fun Z X Y => ?_)
  have X : rb_CX Z G cX4_isEvent 1 RX4 0 := X
  refine rb_iload_n X (pc := 0) dX4_isEvent_0 rfl rfl ?_
  refine rb_if_lt X (pc := 1) (tgt := 14) dX4_isEvent_1 (by decide) (fun c1 => ?_) (fun c1 => ?_)
  · have c1 := Int32.not_le.mpr c1
    refine rb_iconst (v := 0) X (pc := 14) dX4_isEvent_14 (by decide) ?_
    refine rb_zret (S := []) X (pc := 15) Y dX4_isEvent_15 rfl ?_
    exact ⟨by simp [iE, *], rfl⟩
  · have c1 := Int32.not_lt.mp c1
    refine rb_iload_n X (pc := 4) dX4_isEvent_4 rfl rfl ?_
    refine rb_bipush (v := 16) X (pc := 5) dX4_isEvent_5 (by decide) ?_
    refine rb_icmp_ge X (pc := 7) (tgt := 14) dX4_isEvent_7 (by decide) (fun c7 => ?_) (fun c7 => ?_)
    · have c7 := Int32.not_lt.mpr c7
      refine rb_iconst (v := 0) X (pc := 14) dX4_isEvent_14 (by decide) ?_
      refine rb_zret (S := []) X (pc := 15) Y dX4_isEvent_15 rfl ?_
      exact ⟨by simp [iE, *], rfl⟩
    · have c7 := Int32.not_le.mp c7
      refine rb_iconst (v := 1) X (pc := 10) dX4_isEvent_10 (by decide) ?_
      refine rb_goto X (pc := 11) (tgt := 15) dX4_isEvent_11 (by decide) ?_
      refine rb_zret (S := []) X (pc := 15) Y dX4_isEvent_15 rfl ?_
      exact ⟨by simp [iE, *], rfl⟩
set_option maxRecDepth 100000 in
set_option maxHeartbeats 1000000 in
theorem qX4_isSheet {G : rb_G} {h : rb_H} (x : Int32) : rb_M G 0 yX4_isSheet cX4_isSheet 1 (some .boolean) [.int x] (h) (rb_F (some (.int (if iS x = true then 1 else 0))) (h)) := by
  refine rb_meth (L := [.int x]) (by decide) (Nat.le_of_ble_eq_true rfl) rfl (fun Z X Y => ?_)
  have X : rb_CX Z G cX4_isSheet 1 RX4 0 := X
  refine rb_iload_n X (pc := 0) dX4_isSheet_0 rfl rfl ?_
  refine rb_if_lt X (pc := 1) (tgt := 13) dX4_isSheet_1 (by decide) (fun c1 => ?_) (fun c1 => ?_)
  · have c1 := Int32.not_le.mpr c1
    refine rb_iconst (v := 0) X (pc := 13) dX4_isSheet_13 (by decide) ?_
    refine rb_zret (S := []) X (pc := 14) Y dX4_isSheet_14 rfl ?_
    exact ⟨by simp [iS, *], rfl⟩
  · have c1 := Int32.not_lt.mp c1
    refine rb_iload_n X (pc := 4) dX4_isSheet_4 rfl rfl ?_
    refine rb_iconst (v := 4) X (pc := 5) dX4_isSheet_5 (by decide) ?_
    refine rb_icmp_ge X (pc := 6) (tgt := 13) dX4_isSheet_6 (by decide) (fun c6 => ?_) (fun c6 => ?_)
    · have c6 := Int32.not_lt.mpr c6
      refine rb_iconst (v := 0) X (pc := 13) dX4_isSheet_13 (by decide) ?_
      refine rb_zret (S := []) X (pc := 14) Y dX4_isSheet_14 rfl ?_
      exact ⟨by simp [iS, *], rfl⟩
    · have c6 := Int32.not_le.mp c6
      refine rb_iconst (v := 1) X (pc := 9) dX4_isSheet_9 (by decide) ?_
      refine rb_goto X (pc := 10) (tgt := 14) dX4_isSheet_10 (by decide) ?_
      refine rb_zret (S := []) X (pc := 14) Y dX4_isSheet_14 rfl ?_
      exact ⟨by simp [iS, *], rfl⟩
set_option maxRecDepth 100000 in
set_option maxHeartbeats 1000000 in
theorem qX4_isWithin {G : rb_G} {h : rb_H} (x m : Int32) : rb_M G 0 yX4_isWithin cX4_isWithin 2 (some .boolean) [.int x, .int m] (h) (rb_F (some (.int (if iN x m = true then 1 else 0))) (h)) := by
  refine rb_meth (L := [.int x, .int m]) (by decide) (Nat.le_of_ble_eq_true rfl) rfl (fun Z X Y => ?_)
  have X : rb_CX Z G cX4_isWithin 2 RX4 0 := X
  refine rb_iload_n X (pc := 0) dX4_isWithin_0 rfl rfl ?_
  refine rb_if_lt X (pc := 1) (tgt := 13) dX4_isWithin_1 (by decide) (fun c1 => ?_) (fun c1 => ?_)
  · have c1 := Int32.not_le.mpr c1
    refine rb_iconst (v := 0) X (pc := 13) dX4_isWithin_13 (by decide) ?_
    refine rb_zret (S := []) X (pc := 14) Y dX4_isWithin_14 rfl ?_
    exact ⟨by simp [iN, *], rfl⟩
  · have c1 := Int32.not_lt.mp c1
    refine rb_iload_n X (pc := 4) dX4_isWithin_4 rfl rfl ?_
    refine rb_iload_n X (pc := 5) dX4_isWithin_5 rfl rfl ?_
    refine rb_icmp_gt X (pc := 6) (tgt := 13) dX4_isWithin_6 (by decide) (fun c6 => ?_) (fun c6 => ?_)
    · have c6 := Int32.not_le.mpr c6
      refine rb_iconst (v := 0) X (pc := 13) dX4_isWithin_13 (by decide) ?_
      refine rb_zret (S := []) X (pc := 14) Y dX4_isWithin_14 rfl ?_
      exact ⟨by simp [iN, *], rfl⟩
    · have c6 := Int32.not_lt.mp c6
      refine rb_iconst (v := 1) X (pc := 9) dX4_isWithin_9 (by decide) ?_
      refine rb_goto X (pc := 10) (tgt := 14) dX4_isWithin_10 (by decide) ?_
      refine rb_zret (S := []) X (pc := 14) Y dX4_isWithin_14 rfl ?_
      exact ⟨by simp [iN, *], rfl⟩
def m_house (w : Int32) : Int32 := if w = 0 then 3 else if w = 1 then 999 else if w = 2 then 9 else -1
def m_rum (w : Int32) : Int32 := if w = 1 then 15 else if w = 2 then 99 else if w = 3 then 999 else -1
set_option maxRecDepth 100000 in
set_option maxHeartbeats 1000000 in
theorem qX4_mostOfHouse {G : rb_G} {h : rb_H} (w : Int32) : rb_M G 0 yX4_mostOfHouse cX4_mostOfHouse 1 (some .int) [.int w] (h) (rb_F (some (.int (m_house w))) (h)) := by
  refine rb_meth (L := [.int w]) (by decide) (Nat.le_of_ble_eq_true rfl) rfl (fun Z X Y => ?_)
  have X : rb_CX Z G cX4_mostOfHouse 1 RX4 0 := X
  refine rb_iload_n X (pc := 0) dX4_mostOfHouse_0 rfl rfl ?_
  refine rc_tabC X (pc := 1) (v := 0) (i := 0) (tgt := 28) dX4_mostOfHouse_1 (by decide) (by decide) rfl (by decide) (fun c1 => ?_) (fun n1_0 => ?_)
  · refine rb_iconst (v := 3) X (pc := 28) dX4_mostOfHouse_28 (by decide) ?_
    refine rb_iret (S := []) X (pc := 29) Y dX4_mostOfHouse_29 ?_
    exact ⟨by simp_all [m_house], rfl⟩
  refine rc_tabC X (pc := 1) (v := 1) (i := 1) (tgt := 30) dX4_mostOfHouse_1 (by decide) (by decide) rfl (by decide) (fun c1 => ?_) (fun n1_1 => ?_)
  · refine rb_sipush (v := 999) X (pc := 30) dX4_mostOfHouse_30 (by decide) ?_
    refine rb_iret (S := []) X (pc := 33) Y dX4_mostOfHouse_33 ?_
    exact ⟨by simp_all [m_house], rfl⟩
  refine rc_tabC X (pc := 1) (v := 2) (i := 2) (tgt := 34) dX4_mostOfHouse_1 (by decide) (by decide) rfl (by decide) (fun c1 => ?_) (fun n1_2 => ?_)
  · refine rb_bipush (v := 9) X (pc := 34) dX4_mostOfHouse_34 (by decide) ?_
    refine rb_iret (S := []) X (pc := 36) Y dX4_mostOfHouse_36 ?_
    exact ⟨by simp_all [m_house], rfl⟩
  refine rb_tabOut X (pc := 1) (tgt := 37) dX4_mostOfHouse_1 (by have z0 := lv_neT n1_0 (a := 0) rfl; have z1 := lv_neT n1_1 (a := 1) rfl; have z2 := lv_neT n1_2 (a := 2) rfl; omega) (by decide) ?_
  refine rb_iconst (v := (-1)) X (pc := 37) dX4_mostOfHouse_37 (by decide) ?_
  refine rb_iret (S := []) X (pc := 38) Y dX4_mostOfHouse_38 ?_
  exact ⟨by simp_all [m_house], rfl⟩
set_option maxRecDepth 100000 in
set_option maxHeartbeats 1000000 in
theorem qX4_mostOfRumour {G : rb_G} {h : rb_H} (w : Int32) : rb_M G 0 yX4_mostOfRumour cX4_mostOfRumour 1 (some .int) [.int w] (h) (rb_F (some (.int (m_rum w))) (h)) := by
  refine rb_meth (L := [.int w]) (by decide) (Nat.le_of_ble_eq_true rfl) rfl (fun Z X Y => ?_)
  have X : rb_CX Z G cX4_mostOfRumour 1 RX4 0 := X
  refine rb_iload_n X (pc := 0) dX4_mostOfRumour_0 rfl rfl ?_
  refine rc_tabC X (pc := 1) (v := 1) (i := 0) (tgt := 28) dX4_mostOfRumour_1 (by decide) (by decide) rfl (by decide) (fun c1 => ?_) (fun n1_1 => ?_)
  · refine rb_bipush (v := 15) X (pc := 28) dX4_mostOfRumour_28 (by decide) ?_
    refine rb_iret (S := []) X (pc := 30) Y dX4_mostOfRumour_30 ?_
    exact ⟨by simp_all [m_rum], rfl⟩
  refine rc_tabC X (pc := 1) (v := 2) (i := 1) (tgt := 31) dX4_mostOfRumour_1 (by decide) (by decide) rfl (by decide) (fun c1 => ?_) (fun n1_2 => ?_)
  · refine rb_bipush (v := 99) X (pc := 31) dX4_mostOfRumour_31 (by decide) ?_
    refine rb_iret (S := []) X (pc := 33) Y dX4_mostOfRumour_33 ?_
    exact ⟨by simp_all [m_rum], rfl⟩
  refine rc_tabC X (pc := 1) (v := 3) (i := 2) (tgt := 34) dX4_mostOfRumour_1 (by decide) (by decide) rfl (by decide) (fun c1 => ?_) (fun n1_3 => ?_)
  · refine rb_sipush (v := 999) X (pc := 34) dX4_mostOfRumour_34 (by decide) ?_
    refine rb_iret (S := []) X (pc := 37) Y dX4_mostOfRumour_37 ?_
    exact ⟨by simp_all [m_rum], rfl⟩
  refine rb_tabOut X (pc := 1) (tgt := 38) dX4_mostOfRumour_1 (by have z1 := lv_neT n1_1 (a := 1) rfl; have z2 := lv_neT n1_2 (a := 2) rfl; have z3 := lv_neT n1_3 (a := 3) rfl; omega) (by decide) ?_
  refine rb_iconst (v := (-1)) X (pc := 38) dX4_mostOfRumour_38 (by decide) ?_
  refine rb_iret (S := []) X (pc := 39) Y dX4_mostOfRumour_39 ?_
  exact ⟨by simp_all [m_rum], rfl⟩
set_option maxRecDepth 100000 in
set_option maxHeartbeats 1000000 in
theorem qX4_isRumour {G : rb_G} {h : rb_H} {T : rb_T} (x : Int32) : rb_M G 0 yX4_isRumour cX4_isRumour 2 (some .boolean) [.ref (rb_ad G 8 0), .int x] (tw h 0 T) (rb_F (some (.int (if iR T x = true then 1 else 0))) (tw h 0 T)) := by
  refine rb_meth (L := [.ref (rb_ad G 8 0), .int x]) (by decide) (Nat.le_of_ble_eq_true rfl) rfl (fun Z X Y => ?_)
  have X : rb_CX Z G cX4_isRumour 2 RX4 0 := X
  refine rb_iload_n X (pc := 0) dX4_isRumour_0 rfl rfl ?_
  refine rb_if_lt X (pc := 1) (tgt := 19) dX4_isRumour_1 (by decide) (fun c1 => ?_) (fun c1 => ?_)
  · have c1 := Int32.not_le.mpr c1
    refine rb_iconst (v := 0) X (pc := 19) dX4_isRumour_19 (by decide) ?_
    refine rb_zret (S := []) X (pc := 20) Y dX4_isRumour_20 rfl ?_
    exact ⟨by simp [iR, *], rfl⟩
  · have c1 := Int32.not_lt.mp c1
    refine rb_iload_n X (pc := 4) dX4_isRumour_4 rfl rfl ?_
    refine rb_aload_n X (pc := 5) dX4_isRumour_5 rfl rfl ?_
    refine rc_getO (q := 0) X (pc := 6) fX4_10 rb_ob8 rfl dX4_isRumour_6 ?_
    refine rc_getI X (pc := 9) fX4_160 (rb_obT (t := 0) (by decide)) rfl (rb_tf4 (t := 0)) dX4_isRumour_9 ?_
    refine rb_icmp_ge X (pc := 12) (tgt := 19) dX4_isRumour_12 (by decide) (fun c12 => ?_) (fun c12 => ?_)
    · have c12 := Int32.not_lt.mpr c12
      refine rb_iconst (v := 0) X (pc := 19) dX4_isRumour_19 (by decide) ?_
      refine rb_zret (S := []) X (pc := 20) Y dX4_isRumour_20 rfl ?_
      exact ⟨by simp [iR, *], rfl⟩
    · have c12 := Int32.not_le.mp c12
      refine rb_iconst (v := 1) X (pc := 15) dX4_isRumour_15 (by decide) ?_
      refine rb_goto X (pc := 16) (tgt := 20) dX4_isRumour_16 (by decide) ?_
      refine rb_zret (S := []) X (pc := 20) Y dX4_isRumour_20 rfl ?_
      exact ⟨by simp [iR, *], rfl⟩
set_option maxRecDepth 100000 in
set_option maxHeartbeats 1000000 in
theorem qX4_finding {G : rb_G} {h : rb_H} {w : Int32} {i : Nat} (hi : i < 7) (hw : -1000000001 - w = nI i) : rb_M G 0 yX4_finding cX4_finding 3 (some .int) [.ref (rb_ad G 8 0), .int w] (h) (rb_F (some (.int (w))) (rb_u h 8 6 i (h.1 8 6 i + 1))) := by
  refine rb_meth (L := [.ref (rb_ad G 8 0), .int w, .null]) (by decide) (Nat.le_of_ble_eq_true rfl) rfl (fun Z X Y => ?_)
  have X : rb_CX Z G cX4_finding 3 RX4 0 := X
  refine rb_ldc X (pc := 0) dX4_finding_0 kX4_56 ?_
  refine rb_iload_n X (pc := 2) dX4_finding_2 rfl rfl ?_
  refine rb_isub X (pc := 3) dX4_finding_3 ?_
  refine rb_istore_n X (pc := 4) dX4_finding_4 rfl (by decide) rfl rfl ?_
  refine rb_iload_n X (pc := 5) dX4_finding_5 rfl rfl ?_
  refine rb_if_lt X (pc := 6) (tgt := 25) dX4_finding_6 (by decide) (fun c6 => absurd c6 (by rw [hw]; exact nI_pos (by omega))) (fun c6 => ?_)
  refine rb_iload_n X (pc := 9) dX4_finding_9 rfl rfl ?_
  refine rb_bipush (v := 7) X (pc := 10) dX4_finding_10 (by decide) ?_
  refine rb_icmp_ge X (pc := 12) (tgt := 25) dX4_finding_12 (by decide) (fun c12 => absurd c12 (by rw [hw]; exact nI_ge (b := 7) hi (by decide))) (fun c12 => ?_)
  refine rb_aload_n X (pc := 15) dX4_finding_15 rfl rfl ?_
  refine rc_getR X (pc := 16) fX4_39 rb_ob8 rfl dX4_finding_16 ?_
  refine rb_iload_n X (pc := 19) dX4_finding_19 rfl rfl ?_
  refine rb_dup2 X (pc := 20) dX4_finding_20 rfl rfl ?_
  refine rc_iald X (pc := 21) i rb_ar8_6 rfl hw hi dX4_finding_21 ?_
  refine rb_iconst (v := 1) X (pc := 22) dX4_finding_22 (by decide) ?_
  refine rb_iadd X (pc := 23) dX4_finding_23 ?_
  refine rc_iast X (pc := 24) i rb_ar8_6 rfl hw hi dX4_finding_24 ?_
  refine rb_iload_n X (pc := 25) dX4_finding_25 rfl rfl ?_
  refine rb_iret (S := []) X (pc := 26) Y dX4_finding_26 ?_
  exact ⟨rfl, rfl⟩
set_option maxRecDepth 100000 in
set_option maxHeartbeats 1000000 in
theorem lpX4_sumOf_4 {Z : rb_Z} {G : rb_G} {h : rb_H} {o j n : Nat} {f : Nat → Int32} (a : rb_ar o j 0 n) (hf1 : h.1 o j = f) (hn : n < 2 ^ 30) (X : rb_CX Z G cX4_sumOf 3 RX4 0) (Y : rb_RT Z G (some .int) (rb_F (some (.int (sp_sum f n))) (h))) : ∀ fu : Nat, ∀ i : Nat, i ≤ n → n + 1 ≤ i + fu → rb_WP Z G 3 4 [.ref (rb_ad G o (j + 1)), .int (sp_sum f i), .int (nI i)] [] h := by
  intro fu
  induction fu with
  | zero => intro i hi hf; omega
  | succ fu ih =>
    intro i hi hf
    refine rb_iload_n X (pc := 4) dX4_sumOf_4 rfl rfl ?_
    refine rb_aload_n X (pc := 5) dX4_sumOf_5 rfl rfl ?_
    refine rc_alen X (pc := 6) a dX4_sumOf_6 ?_
    refine rb_icmp_ge X (pc := 7) (tgt := 22) dX4_sumOf_7 (by decide) (fun c7 => ?_) (fun c7 => ?_)
    · have hi2 := (sp_geI (n := n) rfl (by omega) (by omega)).mp c7
      obtain rfl : i = n := by omega
      refine rb_iload_n X (pc := 22) dX4_sumOf_22 rfl rfl ?_
      refine rb_iret (S := []) X (pc := 23) Y dX4_sumOf_23 ?_
      exact ⟨rfl, rfl⟩
    · have hi2 : i < n := Nat.lt_of_not_le (fun z => c7 ((sp_geI (n := n) rfl (by omega) (by omega)).mpr z))
      refine rb_iload_n X (pc := 10) dX4_sumOf_10 rfl rfl ?_
      refine rb_aload_n X (pc := 11) dX4_sumOf_11 rfl rfl ?_
      refine rb_iload_n X (pc := 12) dX4_sumOf_12 rfl rfl ?_
      refine rc_iald X (pc := 13) _ a hf1 rfl (by omega) dX4_sumOf_13 ?_ (by omega)
      refine rb_iadd X (pc := 14) dX4_sumOf_14 ?_
      refine rb_istore_n X (pc := 15) dX4_sumOf_15 rfl (by decide) rfl rfl ?_
      refine rb_iinc X (pc := 16) dX4_sumOf_16 rfl (sp_inc _) (by decide) rfl rfl ?_
      refine rb_goto X (pc := 19) (tgt := 4) dX4_sumOf_19 (by decide) ?_
      exact sp_go rfl rfl (ih (i + 1) (by omega) (by omega))
set_option maxRecDepth 100000 in
set_option maxHeartbeats 1000000 in
theorem qX4_sumOf {G : rb_G} {h : rb_H} {o j n : Nat} {f : Nat → Int32} (a : rb_ar o j 0 n) (hf1 : h.1 o j = f) (hn : n < 2 ^ 30) : rb_M G 0 yX4_sumOf cX4_sumOf 3 (some .int) [.ref (rb_ad G o (j + 1))] (h) (rb_F (some (.int (sp_sum f n))) (h)) := by
  refine rb_meth (L := [.ref (rb_ad G o (j + 1)), .null, .null]) (by decide) (Nat.le_of_ble_eq_true rfl) rfl (fun Z X Y => ?_)
  have X : rb_CX Z G cX4_sumOf 3 RX4 0 := X
  refine rb_iconst (v := 0) X (pc := 0) dX4_sumOf_0 (by decide) ?_
  refine rb_istore_n X (pc := 1) dX4_sumOf_1 rfl (by decide) rfl rfl ?_
  refine rb_iconst (v := 0) X (pc := 2) dX4_sumOf_2 (by decide) ?_
  refine rb_istore_n X (pc := 3) dX4_sumOf_3 rfl (by decide) rfl rfl ?_
  exact sp_go rfl rfl (lpX4_sumOf_4 a hf1 hn X Y (n + 1) 0 (by omega) (by omega))
set_option maxRecDepth 100000 in
set_option maxHeartbeats 1000000 in
theorem qX1_isMissing {G : rb_G} {h : rb_H} {q : Nat} (hq : q < 4) : rb_M G 0 yX1_isMissing cX1_isMissing 1 (some .boolean) [.ref (rb_ad G (4 + q) 0)] (h) (rb_F (some (.int (if h.1 (4 + q) 0 0 = 0 then 1 else 0))) (h)) := by
  refine rb_meth (L := [.ref (rb_ad G (4 + q) 0)]) (by decide) (Nat.le_of_ble_eq_true rfl) rfl (fun Z X Y => ?_)
  have X : rb_CX Z G cX1_isMissing 1 RX1 0 := X
  refine rb_aload_n X (pc := 0) dX1_isMissing_0 rfl rfl ?_
  refine rc_getI X (pc := 1) fX1_7 (rb_obS hq) rfl rfl dX1_isMissing_1 ?_
  refine rb_if_ne X (pc := 4) (tgt := 11) dX1_isMissing_4 (by decide) (fun c4 => ?_) (fun c4 => ?_)
  · refine rb_iconst (v := 0) X (pc := 11) dX1_isMissing_11 (by decide) ?_
    refine rb_zret (S := []) X (pc := 12) Y dX1_isMissing_12 rfl ?_
    exact ⟨by simp_all, rfl⟩
  · refine rb_iconst (v := 1) X (pc := 7) dX1_isMissing_7 (by decide) ?_
    refine rb_goto X (pc := 8) (tgt := 12) dX1_isMissing_8 (by decide) ?_
    refine rb_zret (S := []) X (pc := 12) Y dX1_isMissing_12 rfl ?_
    exact ⟨by simp_all, rfl⟩
def sp_nar (b : Int32) (v : Int64) : Int64 := if b = 8 then v.toInt32.toInt8.toInt32.toInt64 else if b = 16 then v.toInt32.toInt16.toInt32.toInt64 else v
set_option maxRecDepth 100000 in
set_option maxHeartbeats 1000000 in
theorem qX1_put {G : rb_G} {h : rb_H} {q i : Nat} {v : Int64} (hq : q < 4) (hi : i < 40) : rb_M G 0 yX1_put cX1_put 4 none [.ref (rb_ad G (4 + q) 0), .int (nI i), .long v] (h) (rb_F none (rb_ul h (4 + q) 2 i (sp_nar (h.1 (4 + q) 0 0) v))) := by
  refine rb_meth (L := [.ref (rb_ad G (4 + q) 0), .int (nI i), .long v, .null]) (by decide) (Nat.le_of_ble_eq_true rfl) rfl (fun Z X Y => ?_)
  have X : rb_CX Z G cX1_put 4 RX1 0 := X
  refine rb_aload_n X (pc := 0) dX1_put_0 rfl rfl ?_
  refine rc_getR X (pc := 1) fX1_16 (rb_obS hq) rfl dX1_put_1 ?_
  refine rb_iload_n X (pc := 4) dX1_put_4 rfl rfl ?_
  refine rb_aload_n X (pc := 5) dX1_put_5 rfl rfl ?_
  refine rc_getI X (pc := 6) fX1_7 (rb_obS hq) rfl rfl dX1_put_6 ?_
  refine rb_bipush (v := 8) X (pc := 9) dX1_put_9 (by decide) ?_
  refine rb_icmp_ne X (pc := 11) (tgt := 21) dX1_put_11 (by decide) (fun c11 => ?_) (fun c11 => ?_)
  · refine rb_aload_n X (pc := 21) dX1_put_21 rfl rfl ?_
    refine rc_getI X (pc := 22) fX1_7 (rb_obS hq) rfl rfl dX1_put_22 ?_
    refine rb_bipush (v := 16) X (pc := 25) dX1_put_25 (by decide) ?_
    refine rb_icmp_ne X (pc := 27) (tgt := 37) dX1_put_27 (by decide) (fun c27 => ?_) (fun c27 => ?_)
    · refine rb_lload_n X (pc := 37) dX1_put_37 rfl rfl ?_
      refine rc_last X (pc := 38) _ (rb_arS2 hq) rfl rfl (by omega) dX1_put_38 ?_
      refine rb_vret (S := []) X (pc := 39) Y dX1_put_39 ?_
      exact ⟨rfl, by simp_all [sp_nar]⟩
    · refine rb_lload_n X (pc := 30) dX1_put_30 rfl rfl ?_
      refine rb_l2i X (pc := 31) dX1_put_31 ?_
      refine rb_i2s X (pc := 32) dX1_put_32 ?_
      refine rb_i2l X (pc := 33) dX1_put_33 ?_
      refine rb_goto X (pc := 34) (tgt := 38) dX1_put_34 (by decide) ?_
      refine rc_last X (pc := 38) _ (rb_arS2 hq) rfl rfl (by omega) dX1_put_38 ?_
      refine rb_vret (S := []) X (pc := 39) Y dX1_put_39 ?_
      exact ⟨rfl, by simp_all [sp_nar]⟩
  · refine rb_lload_n X (pc := 14) dX1_put_14 rfl rfl ?_
    refine rb_l2i X (pc := 15) dX1_put_15 ?_
    refine rb_i2b X (pc := 16) dX1_put_16 ?_
    refine rb_i2l X (pc := 17) dX1_put_17 ?_
    refine rb_goto X (pc := 18) (tgt := 38) dX1_put_18 (by decide) ?_
    refine rc_last X (pc := 38) _ (rb_arS2 hq) rfl rfl (by omega) dX1_put_38 ?_
    refine rb_vret (S := []) X (pc := 39) Y dX1_put_39 ?_
    exact ⟨rfl, by simp_all [sp_nar]⟩
def iG (from_ n len : Int32) : Bool := decide (0 ≤ from_ ∧ 0 ≤ n ∧ n ≤ len ∧ from_ ≤ len - n)
set_option maxRecDepth 100000 in
set_option maxHeartbeats 1000000 in
theorem qX1_hasRange {G : rb_G} {h : rb_H} {q : Nat} (hq : q < 4) (f n : Int32) : rb_M G 0 yX1_hasRange cX1_hasRange 3 (some .boolean) [.ref (rb_ad G (4 + q) 0), .int f, .int n] (h) (rb_F (some (.int (if iG f n (h.1 (4 + q) 1 0) = true then 1 else 0))) (h)) := by
  refine rb_meth (L := [.ref (rb_ad G (4 + q) 0), .int f, .int n]) (by decide) (Nat.le_of_ble_eq_true rfl) rfl (fun Z X Y => ?_)
  have X : rb_CX Z G cX1_hasRange 3 RX1 0 := X
  refine rb_iload_n X (pc := 0) dX1_hasRange_0 rfl rfl ?_
  refine rb_if_lt X (pc := 1) (tgt := 30) dX1_hasRange_1 (by decide) (fun c1 => ?_) (fun c1 => ?_)
  · have c1 := Int32.not_le.mpr c1
    refine rb_iconst (v := 0) X (pc := 30) dX1_hasRange_30 (by decide) ?_
    refine rb_zret (S := []) X (pc := 31) Y dX1_hasRange_31 rfl ?_
    exact ⟨by simp [iG, *], rfl⟩
  · have c1 := Int32.not_lt.mp c1
    refine rb_iload_n X (pc := 4) dX1_hasRange_4 rfl rfl ?_
    refine rb_if_lt X (pc := 5) (tgt := 30) dX1_hasRange_5 (by decide) (fun c5 => ?_) (fun c5 => ?_)
    · have c5 := Int32.not_le.mpr c5
      refine rb_iconst (v := 0) X (pc := 30) dX1_hasRange_30 (by decide) ?_
      refine rb_zret (S := []) X (pc := 31) Y dX1_hasRange_31 rfl ?_
      exact ⟨by simp [iG, *], rfl⟩
    · have c5 := Int32.not_lt.mp c5
      refine rb_iload_n X (pc := 8) dX1_hasRange_8 rfl rfl ?_
      refine rb_aload_n X (pc := 9) dX1_hasRange_9 rfl rfl ?_
      refine rc_getI X (pc := 10) fX1_13 (rb_obS hq) rfl rfl dX1_hasRange_10 ?_
      refine rb_icmp_gt X (pc := 13) (tgt := 30) dX1_hasRange_13 (by decide) (fun c13 => ?_) (fun c13 => ?_)
      · have c13 := Int32.not_le.mpr c13
        refine rb_iconst (v := 0) X (pc := 30) dX1_hasRange_30 (by decide) ?_
        refine rb_zret (S := []) X (pc := 31) Y dX1_hasRange_31 rfl ?_
        exact ⟨by simp [iG, *], rfl⟩
      · have c13 := Int32.not_lt.mp c13
        refine rb_iload_n X (pc := 16) dX1_hasRange_16 rfl rfl ?_
        refine rb_aload_n X (pc := 17) dX1_hasRange_17 rfl rfl ?_
        refine rc_getI X (pc := 18) fX1_13 (rb_obS hq) rfl rfl dX1_hasRange_18 ?_
        refine rb_iload_n X (pc := 21) dX1_hasRange_21 rfl rfl ?_
        refine rb_isub X (pc := 22) dX1_hasRange_22 ?_
        refine rb_icmp_gt X (pc := 23) (tgt := 30) dX1_hasRange_23 (by decide) (fun c23 => ?_) (fun c23 => ?_)
        · have c23 := Int32.not_le.mpr c23
          refine rb_iconst (v := 0) X (pc := 30) dX1_hasRange_30 (by decide) ?_
          refine rb_zret (S := []) X (pc := 31) Y dX1_hasRange_31 rfl ?_
          exact ⟨by simp [iG, *], rfl⟩
        · have c23 := Int32.not_lt.mp c23
          refine rb_iconst (v := 1) X (pc := 26) dX1_hasRange_26 (by decide) ?_
          refine rb_goto X (pc := 27) (tgt := 31) dX1_hasRange_27 (by decide) ?_
          refine rb_zret (S := []) X (pc := 31) Y dX1_hasRange_31 rfl ?_
          exact ⟨by simp [iG, *], rfl⟩
