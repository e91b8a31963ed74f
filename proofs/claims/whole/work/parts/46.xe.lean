theorem pc_g {σ' : Sg} {h h' : rb_H} {p : Int32 × Sg} {v : Int32} (hC : CI σ' h') (h1 : h'.1 9 = h.1 9) (h2 : h'.2 9 = h.2 9) (e : p = (v, σ')) : PC h p (some (.int v)) h' := by subst e; exact ⟨rfl, hC, h1, h2⟩
theorem pcl_g {σ' : Sg} {h h' : rb_H} {p : Int64 × Sg} {v : Int64} (hC : CI σ' h') (h1 : h'.1 9 = h.1 9) (h2 : h'.2 9 = h.2 9) (e : p = (v, σ')) : PCl h p (some (.long v)) h' := by subst e; exact ⟨rfl, hC, h1, h2⟩
theorem pcl_f {σ : Sg} {h : rb_H} {p : Int64 × Sg} {w : Int32} {i : Nat} (hC : CI σ h) (e : p = (w.toInt64, fnd σ i)) : PCl h p (some (.long w.toInt64)) (rb_u h 8 6 i (h.1 8 6 i + 1)) := by subst e; exact ⟨rfl, CI_f hC i, rfl, rfl⟩
theorem sp_dec (x : Int32) : x + Int32.ofInt (-1) = x - 1 := by rw [Int32.sub_eq_add_neg]; rfl
theorem rb_ul_rowl {h : rb_H} {o j i : Nat} {f : Nat → Int64} {v : Int64} : rb_ul (rb_rowl h o j f) o j i v = rb_rowl h o j (va_up f i v) := by
  unfold rb_ul rb_rowl
  simp only
  congr 1
  funext q
  simp only [va_up]
  by_cases hq : q = o
  · subst hq; simp only [if_true]; funext j2; simp only [va_up]; by_cases hj : j2 = j <;> simp [hj]
  · simp [hq]
theorem rb_rowl_self {h : rb_H} {o j : Nat} : rb_rowl h o j (h.2 o j) = h := by
  unfold rb_rowl
  have : va_up h.2 o (va_up (h.2 o) j (h.2 o j)) = h.2 := by
    funext q
    simp only [va_up]
    by_cases hq : q = o
    · subst hq; simp only [if_true]; funext j2; simp only [va_up]; by_cases hj : j2 = j <;> simp [hj]
    · simp [hq]
  rw [this]
theorem ffl_0 {σ : Sg} : ffl σ 0 = ((-1000000001 : Int32).toInt64, fnd σ 0) := Prod.ext (show (-1000000001 - nI 0).toInt64 = (-1000000001 : Int32).toInt64 by decide) rfl
theorem ffl_5 {σ : Sg} : ffl σ 5 = ((-1000000006 : Int32).toInt64, fnd σ 5) := Prod.ext (show (-1000000001 - nI 5).toInt64 = (-1000000006 : Int32).toInt64 by decide) rfl
set_option maxRecDepth 100000 in
set_option maxHeartbeats 1000000 in
theorem qX4_image {G : rb_G} {σ : Sg} {h : rb_H} (hS : okS σ) (hC : CI σ h)  : rb_M G 2 yX4_image cX4_image 1 (some .int) [.ref (rb_ad G 8 0)] (h) (PC h (r_image σ )) := by
  refine rb_meth (L := [.ref (rb_ad G 8 0)]) (by decide) (Nat.le_of_ble_eq_true rfl) rfl (fun Z X Y => ?_)
  have X : rb_CX Z G cX4_image 1 RX4 2 := X
  obtain ⟨h, rfl⟩ : ∃ h0, h = tw h0 0 (sT σ) := ⟨h, (rb_st_self hC.1).symm⟩
  have hok := hS.1
  have hn4 := hok.1
  have hn10 := hok.2.1
  refine rb_aload_n X (pc := 0) dX4_image_0 rfl rfl ?_
  refine rc_getO (q := 2) X (pc := 1) fX4_19 rb_ob8 rfl dX4_image_1 ?_
  refine rb_aload_n X (pc := 4) dX4_image_4 rfl rfl ?_
  refine rc_getO (q := 0) X (pc := 5) fX4_10 rb_ob8 rfl dX4_image_5 ?_
  refine rc_callVv X (pc := 8) cvX3_becomes mX4_177 (rb_obT (t := 2) (by decide)) (qX3_becomes (t := 2) (t2 := 0) (by decide) (by decide) (by decide) (M2 := wl (sT σ)) rfl) (by decide) rfl rfl (Nat.le_of_ble_eq_true rfl) dX4_image_8 ?_
  refine rb_aload_n X (pc := 11) dX4_image_11 rfl rfl ?_
  refine rb_iconst (v := 1) X (pc := 12) dX4_image_12 (by decide) ?_
  refine rc_put X (pc := 13) fX4_22 gX4_3 rb_ob8 rfl rfl rfl rfl dX4_image_13 ?_
  refine rb_iconst (v := 1) X (pc := 16) dX4_image_16 (by decide) ?_
  refine rb_iret (S := []) X (pc := 17) Y dX4_image_17 ?_
  exact pc_g (CI_img hC) rfl rfl rfl
set_option maxRecDepth 100000 in
set_option maxHeartbeats 1000000 in
theorem qX4_undo {G : rb_G} {σ : Sg} {h : rb_H} (hS : okS σ) (hC : CI σ h)  : rb_M G 2 yX4_undo cX4_undo 1 (some .int) [.ref (rb_ad G 8 0)] (h) (PC h (r_undo σ )) := by
  refine rb_meth (L := [.ref (rb_ad G 8 0)]) (by decide) (Nat.le_of_ble_eq_true rfl) rfl (fun Z X Y => ?_)
  have X : rb_CX Z G cX4_undo 1 RX4 2 := X
  obtain ⟨h, rfl⟩ : ∃ h0, h = tw h0 0 (sT σ) := ⟨h, (rb_st_self hC.1).symm⟩
  have hok := hS.1
  have hn4 := hok.1
  have hn10 := hok.2.1
  refine rb_aload_n X (pc := 0) dX4_undo_0 rfl rfl ?_
  refine rc_getI X (pc := 1) fX4_22 rb_ob8 rfl hC.2.2.1 dX4_undo_1 ?_
  refine rb_if_ne X (pc := 4) (tgt := 14) dX4_undo_4 (by decide) (fun c4 => ?_) (fun c4 => ?_)
  · have cq : sQ σ = 1 := hS.2.2.1.resolve_left c4
    refine rb_aload_n X (pc := 14) dX4_undo_14 rfl rfl ?_
    refine rc_getO (q := 0) X (pc := 15) fX4_10 rb_ob8 rfl dX4_undo_15 ?_
    refine rb_aload_n X (pc := 18) dX4_undo_18 rfl rfl ?_
    refine rc_getO (q := 2) X (pc := 19) fX4_19 rb_ob8 rfl dX4_undo_19 ?_
    refine rc_callVv X (pc := 22) cvX3_becomes mX4_177 (rb_obT (t := 0) (by decide)) (qX3_becomes (t := 0) (t2 := 2) (by decide) (by decide) (by decide) (M2 := wl (sK σ)) (hC.2.1 cq)) (by decide) rfl rfl (Nat.le_of_ble_eq_true rfl) dX4_undo_22 ?_
    rw [rb_st_st]
    refine rb_aload_n X (pc := 25) dX4_undo_25 rfl rfl ?_
    refine rc_getO (q := 0) X (pc := 26) fX4_10 rb_ob8 rfl dX4_undo_26 ?_
    refine rc_getI X (pc := 29) fX4_160 (rb_obT (t := 0) (by decide)) rfl (rb_tf4 (t := 0)) dX4_undo_29 ?_
    refine rb_iret (S := []) X (pc := 32) Y dX4_undo_32 ?_
    exact pc_T hC (by simp [r_undo, c4])
  · refine rb_aload_n X (pc := 7) dX4_undo_7 rfl rfl ?_
    refine rb_ldc X (pc := 8) dX4_undo_8 kX4_184 ?_
    refine rc_callVi X (pc := 10) cvX4_finding mX4_57 rb_ob8 (qX4_finding (i := 3) (by decide) (by decide)) (by decide) rfl rfl (Nat.le_of_ble_eq_true rfl) dX4_undo_10 ?_
    refine rb_iret (S := []) X (pc := 13) Y dX4_undo_13 ?_
    exact pc_f hC (by simp [r_undo, ff_3, show sQ σ = 0 by simpa using c4])
set_option maxRecDepth 100000 in
set_option maxHeartbeats 1000000 in
theorem qX4_tear {G : rb_G} {σ : Sg} {h : rb_H} (hS : okS σ) (hC : CI σ h)  : rb_M G 1 yX4_tear cX4_tear 2 (some .int) [.ref (rb_ad G 8 0)] (h) (PC h (r_tear σ )) := by
  refine rb_meth (L := [.ref (rb_ad G 8 0), .null]) (by decide) (Nat.le_of_ble_eq_true rfl) rfl (fun Z X Y => ?_)
  have X : rb_CX Z G cX4_tear 2 RX4 1 := X
  obtain ⟨h, rfl⟩ : ∃ h0, h = tw h0 0 (sT σ) := ⟨h, (rb_st_self hC.1).symm⟩
  have hok := hS.1
  have hn4 := hok.1
  have hn10 := hok.2.1
  refine rb_aload_n X (pc := 0) dX4_tear_0 rfl rfl ?_
  refine rc_getI X (pc := 1) fX4_22 rb_ob8 rfl hC.2.2.1 dX4_tear_1 ?_
  refine rb_if_eq X (pc := 4) (tgt := 11) dX4_tear_4 (by decide) (fun c4 => ?_) (fun c4 => ?_)
  · refine rb_iconst (v := 0) X (pc := 11) dX4_tear_11 (by decide) ?_
    refine rb_istore_n X (pc := 12) dX4_tear_12 rfl (by decide) rfl rfl ?_
    refine rb_aload_n X (pc := 13) dX4_tear_13 rfl rfl ?_
    refine rb_iconst (v := 0) X (pc := 14) dX4_tear_14 (by decide) ?_
    refine rc_put X (pc := 15) fX4_22 gX4_3 rb_ob8 rfl rfl rfl rfl dX4_tear_15 ?_
    refine rb_iload_n X (pc := 18) dX4_tear_18 rfl rfl ?_
    refine rb_iret (S := []) X (pc := 19) Y dX4_tear_19 ?_
    exact pc_g (CI_KQ hC (sK σ) (fun z => absurd z (by decide))) rfl rfl (by simp [r_tear, c4])
  · refine rb_iconst (v := 1) X (pc := 7) dX4_tear_7 (by decide) ?_
    refine rb_goto X (pc := 8) (tgt := 12) dX4_tear_8 (by decide) ?_
    refine rb_istore_n X (pc := 12) dX4_tear_12 rfl (by decide) rfl rfl ?_
    refine rb_aload_n X (pc := 13) dX4_tear_13 rfl rfl ?_
    refine rb_iconst (v := 0) X (pc := 14) dX4_tear_14 (by decide) ?_
    refine rc_put X (pc := 15) fX4_22 gX4_3 rb_ob8 rfl rfl rfl rfl dX4_tear_15 ?_
    refine rb_iload_n X (pc := 18) dX4_tear_18 rfl rfl ?_
    refine rb_iret (S := []) X (pc := 19) Y dX4_tear_19 ?_
    exact pc_g (CI_KQ hC (sK σ) (fun z => absurd z (by decide))) rfl rfl (by simp [r_tear, c4])
set_option maxRecDepth 100000 in
set_option maxHeartbeats 1000000 in
theorem qX4_count {G : rb_G} {σ : Sg} {h : rb_H} (hS : okS σ) (hC : CI σ h)  (w : Int32) : rb_M G 2 yX4_count cX4_count 2 (some .int) [.ref (rb_ad G 8 0), .int w] (h) (PC h (r_count σ w)) := by
  refine rb_meth (L := [.ref (rb_ad G 8 0), .int w]) (by decide) (Nat.le_of_ble_eq_true rfl) rfl (fun Z X Y => ?_)
  have X : rb_CX Z G cX4_count 2 RX4 2 := X
  obtain ⟨h, rfl⟩ : ∃ h0, h = tw h0 0 (sT σ) := ⟨h, (rb_st_self hC.1).symm⟩
  have hok := hS.1
  have hn4 := hok.1
  have hn10 := hok.2.1
  refine rb_iload_n X (pc := 0) dX4_count_0 rfl rfl ?_
  refine rc_tabC X (pc := 1) (v := 0) (i := 0) (tgt := 32) dX4_count_1 (by decide) (by decide) rfl (by decide) (fun c1 => ?_) (fun n1_0 => ?_)
  · refine rb_aload_n X (pc := 32) dX4_count_32 rfl rfl ?_
    refine rc_getO (q := 0) X (pc := 33) fX4_10 rb_ob8 rfl dX4_count_33 ?_
    refine rc_getI X (pc := 36) fX4_160 (rb_obT (t := 0) (by decide)) rfl (rb_tf4 (t := 0)) dX4_count_36 ?_
    refine rb_iret (S := []) X (pc := 39) Y dX4_count_39 ?_
    exact pc_0 hC (by simp [r_count, *])
  refine rc_tabC X (pc := 1) (v := 1) (i := 1) (tgt := 40) dX4_count_1 (by decide) (by decide) rfl (by decide) (fun c1 => ?_) (fun n1_1 => ?_)
  · refine rb_aload_n X (pc := 40) dX4_count_40 rfl rfl ?_
    refine rc_getO (q := 3) X (pc := 41) fX4_29 rb_ob8 rfl dX4_count_41 ?_
    refine rc_getI X (pc := 44) fX4_191 rb_ob3 rfl hC.2.2.2.2.2.1 dX4_count_44 ?_
    refine rb_iret (S := []) X (pc := 47) Y dX4_count_47 ?_
    exact pc_0 hC (by simp [r_count, *])
  refine rc_tabC X (pc := 1) (v := 2) (i := 2) (tgt := 48) dX4_count_1 (by decide) (by decide) rfl (by decide) (fun c1 => ?_) (fun n1_2 => ?_)
  · refine rb_aload_n X (pc := 48) dX4_count_48 rfl rfl ?_
    refine rc_getO (q := 0) X (pc := 49) fX4_10 rb_ob8 rfl dX4_count_49 ?_
    refine rc_getR X (pc := 52) fX4_243 (rb_obT (t := 0) (by decide)) rfl dX4_count_52 ?_
    refine rc_callSi X (pc := 55) cvX4_sumOf mX4_167 (qX4_sumOf (rb_arT3 (t := 0) (by decide)) (rb_tj3 (t := 0)) (by decide)) (by decide) rfl rfl (Nat.le_of_ble_eq_true rfl) dX4_count_55 ?_
    refine rb_iret (S := []) X (pc := 58) Y dX4_count_58 ?_
    exact pc_0 hC (by simp [r_count, *])
  refine rc_tabC X (pc := 1) (v := 3) (i := 3) (tgt := 59) dX4_count_1 (by decide) (by decide) rfl (by decide) (fun c1 => ?_) (fun n1_3 => ?_)
  · refine rb_aload_n X (pc := 59) dX4_count_59 rfl rfl ?_
    refine rc_getO (q := 0) X (pc := 60) fX4_10 rb_ob8 rfl dX4_count_60 ?_
    refine rc_getR X (pc := 63) fX4_60 (rb_obT (t := 0) (by decide)) rfl dX4_count_63 ?_
    refine rc_callSi X (pc := 66) cvX4_sumOf mX4_167 (qX4_sumOf (rb_arT0 (t := 0) (by decide)) (rb_tj0 (t := 0)) (by decide)) (by decide) rfl rfl (Nat.le_of_ble_eq_true rfl) dX4_count_66 ?_
    refine rb_iret (S := []) X (pc := 69) Y dX4_count_69 ?_
    exact pc_0 hC (by simp [r_count, *])
  refine rb_tabOut X (pc := 1) (tgt := 70) dX4_count_1 (by have z0 := lv_neT n1_0 (a := 0) rfl; have z1 := lv_neT n1_1 (a := 1) rfl; have z2 := lv_neT n1_2 (a := 2) rfl; have z3 := lv_neT n1_3 (a := 3) rfl; omega) (by decide) ?_
  refine rb_aload_n X (pc := 70) dX4_count_70 rfl rfl ?_
  refine rb_ldc X (pc := 71) dX4_count_71 kX4_56 ?_
  refine rc_callVi X (pc := 73) cvX4_finding mX4_57 rb_ob8 (qX4_finding (i := 0) (by decide) (by decide)) (by decide) rfl rfl (Nat.le_of_ble_eq_true rfl) dX4_count_73 ?_
  refine rb_iret (S := []) X (pc := 76) Y dX4_count_76 ?_
  first
  | exact pc_f hC (by simp [r_count, ff_0, *]; done)
  | exact pc_Af hC (by simp [r_count, ff_0, *]; done)
set_option maxRecDepth 100000 in
set_option maxHeartbeats 1000000 in
theorem qX4_status {G : rb_G} {σ : Sg} {h : rb_H} (hS : okS σ) (hC : CI σ h)  (w : Int32) : rb_M G 1 yX4_status cX4_status 2 (some .int) [.ref (rb_ad G 8 0), .int w] (h) (PC h (r_status σ w)) := by
  refine rb_meth (L := [.ref (rb_ad G 8 0), .int w]) (by decide) (Nat.le_of_ble_eq_true rfl) rfl (fun Z X Y => ?_)
  have X : rb_CX Z G cX4_status 2 RX4 1 := X
  obtain ⟨h, rfl⟩ : ∃ h0, h = tw h0 0 (sT σ) := ⟨h, (rb_st_self hC.1).symm⟩
  have hok := hS.1
  have hn4 := hok.1
  have hn10 := hok.2.1
  refine rb_iload_n X (pc := 0) dX4_status_0 rfl rfl ?_
  refine rb_iconst (v := (-1)) X (pc := 1) dX4_status_1 (by decide) ?_
  refine rb_icmp_ne X (pc := 2) (tgt := 13) dX4_status_2 (by decide) (fun c2 => ?_) (fun c2 => ?_)
  · refine rb_iload_n X (pc := 13) dX4_status_13 rfl rfl ?_
    refine rb_if_lt X (pc := 14) (tgt := 23) dX4_status_14 (by decide) (fun c14 => ?_) (fun c14 => ?_)
    · refine rb_aload_n X (pc := 23) dX4_status_23 rfl rfl ?_
      refine rb_ldc X (pc := 24) dX4_status_24 kX4_56 ?_
      refine rc_callVi X (pc := 26) cvX4_finding mX4_57 rb_ob8 (qX4_finding (i := 0) (by decide) (by decide)) (by decide) rfl rfl (Nat.le_of_ble_eq_true rfl) dX4_status_26 ?_
      refine rb_iret (S := []) X (pc := 29) Y dX4_status_29 ?_
      exact pc_f hC (by rw [r_status, if_neg c2, if_neg, ff_0]; intro z; first | exact absurd z.1 (Int32.not_le.mpr c14) | exact c20 z.2)
    · refine rb_iload_n X (pc := 17) dX4_status_17 rfl rfl ?_
      refine rb_bipush (v := 7) X (pc := 18) dX4_status_18 (by decide) ?_
      refine rb_icmp_lt X (pc := 20) (tgt := 30) dX4_status_20 (by decide) (fun c20 => ?_) (fun c20 => ?_)
      · obtain ⟨q, hq, rfl⟩ := sp_rng (n := 7) (by decide) (Int32.not_lt.mp c14) c20
        have eq1 : ix (nI q) = q := nI_clamp (by omega)
        refine rb_aload_n X (pc := 30) dX4_status_30 rfl rfl ?_
        refine rc_getR X (pc := 31) fX4_39 rb_ob8 rfl dX4_status_31 ?_
        refine rb_iload_n X (pc := 34) dX4_status_34 rfl rfl ?_
        refine rc_iald X (pc := 35) _ rb_ar8_6 hC.2.2.2.1 rfl (by omega) dX4_status_35 ?_
        refine rb_iret (S := []) X (pc := 36) Y dX4_status_36 ?_
        exact pc_0 hC (by rw [r_status, if_neg c2, if_pos ⟨Int32.not_lt.mp c14, c20⟩, eq1])
      · refine rb_aload_n X (pc := 23) dX4_status_23 rfl rfl ?_
        refine rb_ldc X (pc := 24) dX4_status_24 kX4_56 ?_
        refine rc_callVi X (pc := 26) cvX4_finding mX4_57 rb_ob8 (qX4_finding (i := 0) (by decide) (by decide)) (by decide) rfl rfl (Nat.le_of_ble_eq_true rfl) dX4_status_26 ?_
        refine rb_iret (S := []) X (pc := 29) Y dX4_status_29 ?_
        exact pc_f hC (by rw [r_status, if_neg c2, if_neg, ff_0]; intro z; first | exact absurd z.1 (Int32.not_le.mpr c14) | exact c20 z.2)
  · refine rb_aload_n X (pc := 5) dX4_status_5 rfl rfl ?_
    refine rc_getR X (pc := 6) fX4_39 rb_ob8 rfl dX4_status_6 ?_
    refine rc_callSi X (pc := 9) cvX4_sumOf mX4_167 (qX4_sumOf rb_ar8_6 hC.2.2.2.1 (by decide)) (by decide) rfl rfl (Nat.le_of_ble_eq_true rfl) dX4_status_9 ?_
    refine rb_iret (S := []) X (pc := 12) Y dX4_status_12 ?_
    exact pc_0 hC (by simp [r_status, show w = -1 by simpa using c2])
set_option maxRecDepth 100000 in
set_option maxHeartbeats 1000000 in
theorem qX4_wipe {G : rb_G} {σ : Sg} {h : rb_H} (hS : okS σ) (hC : CI σ h)  : rb_M G 1 yX4_wipe cX4_wipe 2 (some .int) [.ref (rb_ad G 8 0)] (h) (PC h (r_wipe σ )) := by
  refine rb_meth (L := [.ref (rb_ad G 8 0), .null]) (by decide) (Nat.le_of_ble_eq_true rfl) rfl (fun Z X Y => ?_)
  have X : rb_CX Z G cX4_wipe 2 RX4 1 := X
  obtain ⟨h, rfl⟩ : ∃ h0, h = tw h0 0 (sT σ) := ⟨h, (rb_st_self hC.1).symm⟩
  have hok := hS.1
  have hn4 := hok.1
  have hn10 := hok.2.1
  refine rb_aload_n X (pc := 0) dX4_wipe_0 rfl rfl ?_
  refine rc_getO (q := 3) X (pc := 1) fX4_29 rb_ob8 rfl dX4_wipe_1 ?_
  refine rc_getI X (pc := 4) fX4_191 rb_ob3 rfl hC.2.2.2.2.2.1 dX4_wipe_4 ?_
  refine rb_istore_n X (pc := 7) dX4_wipe_7 rfl (by decide) rfl rfl ?_
  refine rb_aload_n X (pc := 8) dX4_wipe_8 rfl rfl ?_
  refine rc_getO (q := 3) X (pc := 9) fX4_29 rb_ob8 rfl dX4_wipe_9 ?_
  refine rb_iconst (v := 0) X (pc := 12) dX4_wipe_12 (by decide) ?_
  refine rc_put X (pc := 13) fX4_191 gX2_1 rb_ob3 rfl rfl rfl rfl dX4_wipe_13 ?_
  refine rb_iload_n X (pc := 16) dX4_wipe_16 rfl rfl ?_
  refine rb_iret (S := []) X (pc := 17) Y dX4_wipe_17 ?_
  exact pc_g (CI_L hC 0) rfl rfl rfl
set_option maxRecDepth 100000 in
set_option maxHeartbeats 1000000 in
theorem qX2_addByte {G : rb_G} {h : rb_H} {n : Nat} {b : Int32} (hn : h.1 3 1 0 = nI n) (hn2 : n < 120) : rb_M G 0 yX2_addByte cX2_addByte 2 none [.ref (rb_ad G 3 0), .int b] (h) (rb_F none (rb_u (rb_u h 3 0 n b) 3 1 0 (nI (n + 1)))) := by
  refine rb_meth (L := [.ref (rb_ad G 3 0), .int b]) (by decide) (Nat.le_of_ble_eq_true rfl) rfl (fun Z X Y => ?_)
  have X : rb_CX Z G cX2_addByte 2 RX2 0 := X
  refine rb_aload_n X (pc := 0) dX2_addByte_0 rfl rfl ?_
  refine rc_getI X (pc := 1) fX2_15 rb_ob3 rfl hn dX2_addByte_1 ?_
  refine rb_bipush (v := 120) X (pc := 4) dX2_addByte_4 (by decide) ?_
  refine rb_icmp_ge X (pc := 6) (tgt := 29) dX2_addByte_6 (by decide) (fun c6 => absurd c6 (nI_ge (b := 120) hn2 (by decide))) (fun c6 => ?_)
  refine rb_aload_n X (pc := 9) dX2_addByte_9 rfl rfl ?_
  refine rc_getR X (pc := 10) fX2_11 rb_ob3 rfl dX2_addByte_10 ?_
  refine rb_aload_n X (pc := 13) dX2_addByte_13 rfl rfl ?_
  refine rc_getI X (pc := 14) fX2_15 rb_ob3 rfl hn dX2_addByte_14 ?_
  refine rb_iload_n X (pc := 17) dX2_addByte_17 rfl rfl ?_
  refine rc_iast X (pc := 18) _ rb_ar3_0 rfl rfl (by omega) dX2_addByte_18 ?_
  refine rb_aload_n X (pc := 19) dX2_addByte_19 rfl rfl ?_
  refine rb_dup X (pc := 20) dX2_addByte_20 rfl ?_
  refine rc_getI X (pc := 21) fX2_15 rb_ob3 rfl (show (rb_u h 3 0 n b).1 3 1 0 = nI n from hn) dX2_addByte_21 ?_
  refine rb_iconst (v := 1) X (pc := 24) dX2_addByte_24 (by decide) ?_
  refine rb_iadd X (pc := 25) dX2_addByte_25 ?_
  rw [nI_1]
  refine rc_put X (pc := 26) fX2_15 gX2_1 rb_ob3 rfl rfl rfl rfl dX2_addByte_26 ?_
  refine rb_vret (S := []) X (pc := 29) Y dX2_addByte_29 ?_
  exact ⟨rfl, rfl⟩
set_option maxRecDepth 100000 in
set_option maxHeartbeats 1000000 in
theorem lpX4_feed_42 {Z : rb_Z} {G : rb_G} {σ : Sg} {h : rb_H} {b : Int32} {p : Int32 × Sg} {n0 : Int32} (X : rb_CX Z G cX4_feed 4 RX4 1) (Y : rb_RT Z G (some .int) (PC h p)) : ∀ fu : Nat, ∀ (m : Nat) (σ1 : Sg) (h1 : rb_H), m ≤ 4 → m + 1 ≤ fu → CI σ1 h1 → sL σ1 + m ≤ 120 → h1.1 9 = h.1 9 → h1.2 9 = h.2 9 → p = (nI (sL σ1 + m), wB σ1 (fdS b m (sB σ1) (sL σ1)) (sL σ1 + m)) → rb_WP Z G 4 42 [.ref (rb_ad G 8 0), .int b, .int n0, .int (nI m - 1)] [] h1 := by
  intro fu
  induction fu with
  | zero => intro m σ1 h1 hm hf hC hl e1 e2 hp; omega
  | succ fu ih =>
    intro m σ1 h1 hm hf hC hl e1 e2 hp
    refine rb_iload_n X (pc := 42) dX4_feed_42 rfl rfl ?_
    refine rb_if_lt X (pc := 43) (tgt := 69) dX4_feed_43 (by decide) (fun c43 => ?_) (fun c43 => ?_)
    · have hm0 : m = 0 := by
        rcases m with _ | m
        · rfl
        · rw [nI_pred] at c43; exact absurd c43 (nI_pos (by omega))
      subst hm0
      refine rb_aload_n X (pc := 69) dX4_feed_69 rfl rfl ?_
      refine rc_getO (q := 3) X (pc := 70) fX4_29 rb_ob8 rfl dX4_feed_70 ?_
      refine rc_getI X (pc := 73) fX4_191 rb_ob3 rfl hC.2.2.2.2.2.1 dX4_feed_73 ?_
      refine rb_iret (S := []) X (pc := 76) Y dX4_feed_76 ?_
      exact pc_g hC e1 e2 (by rw [hp]; rfl)
    · obtain ⟨m2, rfl⟩ : ∃ m2, m = m2 + 1 := by
        rcases m with _ | m
        · exact absurd (by decide) c43
        · exact ⟨m, rfl⟩
      rw [nI_pred]
      refine rb_aload_n X (pc := 46) dX4_feed_46 rfl rfl ?_
      refine rc_getO (q := 3) X (pc := 47) fX4_29 rb_ob8 rfl dX4_feed_47 ?_
      refine rb_iload_n X (pc := 50) dX4_feed_50 rfl rfl ?_
      refine rb_bipush (v := 8) X (pc := 51) dX4_feed_51 (by decide) ?_
      refine rb_iload_n X (pc := 53) dX4_feed_53 rfl rfl ?_
      refine rb_imul X (pc := 54) dX4_feed_54 ?_
      refine rb_iushr X (pc := 55) dX4_feed_55 ?_
      refine rb_sipush (v := 255) X (pc := 56) dX4_feed_56 (by decide) ?_
      refine rb_iand X (pc := 59) dX4_feed_59 ?_
      refine rc_callVv X (pc := 60) cvX2_addByte mX4_194 rb_ob3 (qX2_addByte hC.2.2.2.2.2.1 (by omega)) (by decide) rfl rfl (Nat.le_of_ble_eq_true rfl) dX4_feed_60 ?_
      refine rb_iinc X (pc := 63) dX4_feed_63 rfl (sp_dec _) (by decide) rfl rfl ?_
      refine rb_goto X (pc := 66) (tgt := 42) dX4_feed_66 (by decide) ?_
      exact sp_go rfl rfl (ih m2 (wB (wB σ1 (va_up (sB σ1) (sL σ1) (fdb b m2)) (sL σ1)) (va_up (sB σ1) (sL σ1) (fdb b m2)) (sL σ1 + 1)) _ (by omega) (by omega) (CI_L (CI_B hC (sL σ1) (fdb b m2)) (sL σ1 + 1)) (show sL σ1 + 1 + m2 ≤ 120 by omega) e1 e2 (by rw [hp]; show _ = (nI (sL σ1 + 1 + m2), wB σ1 (fdS b m2 (va_up (sB σ1) (sL σ1) (fdb b m2)) (sL σ1 + 1)) (sL σ1 + 1 + m2)); rw [show sL σ1 + 1 + m2 = sL σ1 + (m2 + 1) by omega]; rfl))
set_option maxRecDepth 100000 in
set_option maxHeartbeats 1000000 in
theorem qX4_feed {G : rb_G} {σ : Sg} {h : rb_H} (hS : okS σ) (hC : CI σ h)  (b n0 : Int32) : rb_M G 1 yX4_feed cX4_feed 4 (some .int) [.ref (rb_ad G 8 0), .int b, .int n0] (h) (PC h (r_feed σ b n0)) := by
  refine rb_meth (L := [.ref (rb_ad G 8 0), .int b, .int n0, .null]) (by decide) (Nat.le_of_ble_eq_true rfl) rfl (fun Z X Y => ?_)
  have X : rb_CX Z G cX4_feed 4 RX4 1 := X
  obtain ⟨h, rfl⟩ : ∃ h0, h = tw h0 0 (sT σ) := ⟨h, (rb_st_self hC.1).symm⟩
  have hok := hS.1
  have hn4 := hok.1
  have hn10 := hok.2.1
  refine rb_iload_n X (pc := 0) dX4_feed_0 rfl rfl ?_
  refine rb_iconst (v := 1) X (pc := 1) dX4_feed_1 (by decide) ?_
  refine rb_icmp_lt X (pc := 2) (tgt := 10) dX4_feed_2 (by decide) (fun c2 => ?_) (fun c2 => ?_)
  · refine rb_aload_n X (pc := 10) dX4_feed_10 rfl rfl ?_
    refine rb_ldc X (pc := 11) dX4_feed_11 kX4_56 ?_
    refine rc_callVi X (pc := 13) cvX4_finding mX4_57 rb_ob8 (qX4_finding (i := 0) (by decide) (by decide)) (by decide) rfl rfl (Nat.le_of_ble_eq_true rfl) dX4_feed_13 ?_
    refine rb_iret (S := []) X (pc := 16) Y dX4_feed_16 ?_
    exact pc_f hC (by rw [r_feed, if_neg, ff_0]; intro z; simp only [iV, decide_eq_true_eq] at z; first | exact absurd z.1 (Int32.not_le.mpr c2) | exact c7 z.2)
  · refine rb_iload_n X (pc := 5) dX4_feed_5 rfl rfl ?_
    refine rb_iconst (v := 4) X (pc := 6) dX4_feed_6 (by decide) ?_
    refine rb_icmp_le X (pc := 7) (tgt := 17) dX4_feed_7 (by decide) (fun c7 => ?_) (fun c7 => ?_)
    · have cv : iV n0 4 = true := by simp [iV, Int32.not_lt.mp c2, c7]
      obtain ⟨n, hn1, hn2, rfl⟩ := iV_of (n := 4) (by decide) cv
      have en : ix (nI n) = n := nI_clamp (by omega)
      have hl := hS.2.2.2.1
      refine rb_aload_n X (pc := 17) dX4_feed_17 rfl rfl ?_
      refine rc_getO (q := 3) X (pc := 18) fX4_29 rb_ob8 rfl dX4_feed_18 ?_
      refine rc_getI X (pc := 21) fX4_191 rb_ob3 rfl hC.2.2.2.2.2.1 dX4_feed_21 ?_
      refine rb_iload_n X (pc := 24) dX4_feed_24 rfl rfl ?_
      refine rb_iadd X (pc := 25) dX4_feed_25 ?_
      refine rb_bipush (v := 120) X (pc := 26) dX4_feed_26 (by decide) ?_
      refine rb_icmp_le X (pc := 28) (tgt := 38) dX4_feed_28 (by decide) (fun c28 => ?_) (fun c28 => ?_)
      · have c28b : ¬ 120 < sL σ + n := by
          rw [nI_add] at c28
          have := (nI_leI (b := 120) (by omega) (by omega)).mp c28
          omega
        refine rb_iload_n X (pc := 38) dX4_feed_38 rfl rfl ?_
        refine rb_iconst (v := 1) X (pc := 39) dX4_feed_39 (by decide) ?_
        refine rb_isub X (pc := 40) dX4_feed_40 ?_
        refine rb_istore_n X (pc := 41) dX4_feed_41 rfl (by decide) rfl rfl ?_
        exact sp_go rfl rfl (lpX4_feed_42 (σ := σ) X Y 5 n σ _ (by omega) (by omega) hC (by omega) rfl rfl (by simp [r_feed, cv, en, c28b]))
      · have c28b : 120 < sL σ + n := by
          rw [nI_add] at c28
          rcases Nat.lt_or_ge 120 (sL σ + n) with z | z
          · exact z
          · exact absurd ((nI_leI (b := 120) (by omega) (by omega)).mpr z) c28
        refine rb_aload_n X (pc := 31) dX4_feed_31 rfl rfl ?_
        refine rb_ldc X (pc := 32) dX4_feed_32 kX4_88 ?_
        refine rc_callVi X (pc := 34) cvX4_finding mX4_57 rb_ob8 (qX4_finding (i := 1) (by decide) (by decide)) (by decide) rfl rfl (Nat.le_of_ble_eq_true rfl) dX4_feed_34 ?_
        refine rb_iret (S := []) X (pc := 37) Y dX4_feed_37 ?_
        exact pc_f hC (by simp [r_feed, cv, en, c28b, ff_1])
    · refine rb_aload_n X (pc := 10) dX4_feed_10 rfl rfl ?_
      refine rb_ldc X (pc := 11) dX4_feed_11 kX4_56 ?_
      refine rc_callVi X (pc := 13) cvX4_finding mX4_57 rb_ob8 (qX4_finding (i := 0) (by decide) (by decide)) (by decide) rfl rfl (Nat.le_of_ble_eq_true rfl) dX4_feed_13 ?_
      refine rb_iret (S := []) X (pc := 16) Y dX4_feed_16 ?_
      exact pc_f hC (by rw [r_feed, if_neg, ff_0]; intro z; simp only [iV, decide_eq_true_eq] at z; first | exact absurd z.1 (Int32.not_le.mpr c2) | exact c7 z.2)
set_option maxRecDepth 100000 in
set_option maxHeartbeats 1000000 in
theorem lpX1_begin_20 {Z : rb_Z} {G : rb_G} {h : rb_H} {q : Nat} {b n : Int32} (hq : q < 4) (X : rb_CX Z G cX1_begin 4 RX1 0) (Y : rb_RT Z G none (rb_F none (rb_rowl h (4 + q) 2 (fun _ => 0)))) : ∀ fu : Nat, ∀ (i : Nat) (f : Nat → Int64), i ≤ 40 → 41 ≤ i + fu → (∀ j, j < i → f j = 0) → rb_WP Z G 4 20 [.ref (rb_ad G (4 + q) 0), .int b, .int n, .int (nI i)] [] (rb_rowl h (4 + q) 2 f) := by
  intro fu
  induction fu with
  | zero => intro i f hi hf hz; omega
  | succ fu ih =>
    intro i f hi hf hz
    refine rb_iload_n X (pc := 20) dX1_begin_20 rfl rfl ?_
    refine rb_bipush (v := 40) X (pc := 21) dX1_begin_21 (by decide) ?_
    refine rb_icmp_ge X (pc := 23) (tgt := 39) dX1_begin_23 (by decide) (fun c23 => ?_) (fun c23 => ?_)
    · have hi2 := (sp_geI (n := 40) rfl (by omega) (by omega)).mp c23
      obtain rfl : i = 40 := by omega
      refine rb_rowlC (rb_arS2 hq).1 (rb_arS2 hq).2 (g := fun _ => 0) hz ?_
      refine rb_vret (S := []) X (pc := 39) Y dX1_begin_39 ?_
      exact ⟨rfl, rfl⟩
    · have hi2 : i < 40 := Nat.lt_of_not_le (fun z => c23 ((sp_geI (n := 40) rfl (by omega) (by omega)).mpr z))
      refine rb_aload_n X (pc := 26) dX1_begin_26 rfl rfl ?_
      refine rc_getR X (pc := 27) fX1_16 (rb_obS hq) rfl dX1_begin_27 ?_
      refine rb_iload_n X (pc := 30) dX1_begin_30 rfl rfl ?_
      refine rb_lconst (v := 0) X (pc := 31) dX1_begin_31 (by decide) ?_
      refine rc_last X (pc := 32) _ (rb_arS2 hq) rb_ul_rowl rfl (by omega) dX1_begin_32 ?_
      refine rb_iinc X (pc := 33) dX1_begin_33 rfl (sp_inc _) (by decide) rfl rfl ?_
      refine rb_goto X (pc := 36) (tgt := 20) dX1_begin_36 (by decide) ?_
      exact ih (i + 1) _ (by omega) (by omega) (fun j hj => by
        by_cases e : j = i
        · simp [va_up, e]
        · simp only [va_up, e, if_false]; exact hz j (by omega))
set_option maxRecDepth 100000 in
set_option maxHeartbeats 1000000 in
theorem qX1_begin {G : rb_G} {h : rb_H} {q : Nat} (b n : Int32) (hq : q < 4) : rb_M G 0 yX1_begin cX1_begin 4 none [.ref (rb_ad G (4 + q) 0), .int b, .int n] (h) (rb_F none (rb_rowl (rb_u (rb_u h (4 + q) 0 0 b) (4 + q) 1 0 (if b = 0 then 0 else n)) (4 + q) 2 (fun _ => 0))) := by
  refine rb_meth (L := [.ref (rb_ad G (4 + q) 0), .int b, .int n, .null]) (by decide) (Nat.le_of_ble_eq_true rfl) rfl (fun Z X Y => ?_)
  have X : rb_CX Z G cX1_begin 4 RX1 0 := X
  refine rb_aload_n X (pc := 0) dX1_begin_0 rfl rfl ?_
  refine rb_iload_n X (pc := 1) dX1_begin_1 rfl rfl ?_
  refine rc_put X (pc := 2) fX1_7 gX1_0 (rb_obS hq) rfl rfl rfl rfl dX1_begin_2 ?_
  refine rb_aload_n X (pc := 5) dX1_begin_5 rfl rfl ?_
  refine rb_iload_n X (pc := 6) dX1_begin_6 rfl rfl ?_
  refine rb_if_ne X (pc := 7) (tgt := 14) dX1_begin_7 (by decide) (fun c7 => ?_) (fun c7 => ?_)
  · refine rb_iload_n X (pc := 14) dX1_begin_14 rfl rfl ?_
    refine rc_put X (pc := 15) fX1_13 gX1_1 (rb_obS hq) rfl rfl rfl rfl dX1_begin_15 ?_
    refine rb_iconst (v := 0) X (pc := 18) dX1_begin_18 (by decide) ?_
    refine rb_istore_n X (pc := 19) dX1_begin_19 rfl (by decide) rfl rfl ?_
    first
    | (rw [if_neg c7] at Y
       exact sp_go rfl (by rw [rb_rowl_self]) (lpX1_begin_20 hq X Y 41 0 _ (by omega) (by omega) (fun j hj => absurd hj (by omega))))
    | (rw [if_pos (by simpa using c7)] at Y
       exact sp_go rfl (by rw [rb_rowl_self]) (lpX1_begin_20 hq X Y 41 0 _ (by omega) (by omega) (fun j hj => absurd hj (by omega))))
  · refine rb_iconst (v := 0) X (pc := 10) dX1_begin_10 (by decide) ?_
    refine rb_goto X (pc := 11) (tgt := 15) dX1_begin_11 (by decide) ?_
    refine rc_put X (pc := 15) fX1_13 gX1_1 (rb_obS hq) rfl rfl rfl rfl dX1_begin_15 ?_
    refine rb_iconst (v := 0) X (pc := 18) dX1_begin_18 (by decide) ?_
    refine rb_istore_n X (pc := 19) dX1_begin_19 rfl (by decide) rfl rfl ?_
    first
    | (rw [if_neg c7] at Y
       exact sp_go rfl (by rw [rb_rowl_self]) (lpX1_begin_20 hq X Y 41 0 _ (by omega) (by omega) (fun j hj => absurd hj (by omega))))
    | (rw [if_pos (by simpa using c7)] at Y
       exact sp_go rfl (by rw [rb_rowl_self]) (lpX1_begin_20 hq X Y 41 0 _ (by omega) (by omega) (fun j hj => absurd hj (by omega))))
set_option maxRecDepth 100000 in
set_option maxHeartbeats 1000000 in
theorem qX4_sheet {G : rb_G} {σ : Sg} {h : rb_H} (hS : okS σ) (hC : CI σ h)  (s b n : Int32) : rb_M G 1 yX4_sheet cX4_sheet 4 (some .int) [.ref (rb_ad G 8 0), .int s, .int b, .int n] (h) (PC h (r_sheet σ s b n)) := by
  refine rb_meth (L := [.ref (rb_ad G 8 0), .int s, .int b, .int n]) (by decide) (Nat.le_of_ble_eq_true rfl) rfl (fun Z X Y => ?_)
  have X : rb_CX Z G cX4_sheet 4 RX4 1 := X
  obtain ⟨h, rfl⟩ : ∃ h0, h = tw h0 0 (sT σ) := ⟨h, (rb_st_self hC.1).symm⟩
  have hok := hS.1
  have hn4 := hok.1
  have hn10 := hok.2.1
  refine rb_iload_n X (pc := 0) dX4_sheet_0 rfl rfl ?_
  refine rc_callSi X (pc := 1) cvX4_isSheet mX4_201 (qX4_isSheet _) (by decide) rfl rfl (Nat.le_of_ble_eq_true rfl) dX4_sheet_1 ?_
  refine rb_if_eq X (pc := 4) (tgt := 29) dX4_sheet_4 (by decide) (fun c4 => ?_) (fun c4 => ?_)
  · (try simp only [sp_b0, Classical.not_not] at c4)
    refine rb_aload_n X (pc := 29) dX4_sheet_29 rfl rfl ?_
    refine rb_ldc X (pc := 30) dX4_sheet_30 kX4_56 ?_
    refine rc_callVi X (pc := 32) cvX4_finding mX4_57 rb_ob8 (qX4_finding (i := 0) (by decide) (by decide)) (by decide) rfl rfl (Nat.le_of_ble_eq_true rfl) dX4_sheet_32 ?_
    refine rb_iret (S := []) X (pc := 35) Y dX4_sheet_35 ?_
    exact pc_f hC (by first | (simp [r_sheet, ff_0, c4]; done) | (simp only [r_sheet, c4]; simp_all [ff_0]; done))
  · (try simp only [sp_b0, Classical.not_not] at c4)
    obtain ⟨q, hq, rfl⟩ := iS_of c4
    have eq1 : ix (nI q) = q := nI_clamp (by omega)
    refine rb_iload_n X (pc := 7) dX4_sheet_7 rfl rfl ?_
    refine rb_if_eq X (pc := 8) (tgt := 36) dX4_sheet_8 (by decide) (fun c8 => ?_) (fun c8 => ?_)
    · have cb : (decide (b = 0) || decide (b = 8) || decide (b = 16) || decide (b = 64)) = true := by simp_all
      refine rb_iload_n X (pc := 36) dX4_sheet_36 rfl rfl ?_
      refine rb_if_ge X (pc := 37) (tgt := 47) dX4_sheet_37 (by decide) (fun c37 => ?_) (fun c37 => ?_)
      · refine rb_iload_n X (pc := 47) dX4_sheet_47 rfl rfl ?_
        refine rb_bipush (v := 40) X (pc := 48) dX4_sheet_48 (by decide) ?_
        refine rb_icmp_le X (pc := 50) (tgt := 60) dX4_sheet_50 (by decide) (fun c50 => ?_) (fun c50 => ?_)
        · obtain ⟨m, hm, rfl⟩ := sp_rngL (n := 40) (by decide) c37 c50
          have em : ix (nI m) = m := nI_clamp (by omega)
          refine rb_aload_n X (pc := 60) dX4_sheet_60 rfl rfl ?_
          refine rc_getR X (pc := 61) fX4_35 rb_ob8 rfl dX4_sheet_61 ?_
          refine rb_iload_n X (pc := 64) dX4_sheet_64 rfl rfl ?_
          refine rb_aald X (pc := 65) _ rfl (by omega) dX4_sheet_65 ?_
          refine rb_iload_n X (pc := 66) dX4_sheet_66 rfl rfl ?_
          refine rb_iload_n X (pc := 67) dX4_sheet_67 rfl rfl ?_
          refine rc_callVv X (pc := 68) cvX1_begin mX4_205 (rb_obS hq) (qX1_begin _ _ hq) (by decide) rfl rfl (Nat.le_of_ble_eq_true rfl) dX4_sheet_68 ?_
          refine rb_aload_n X (pc := 71) dX4_sheet_71 rfl rfl ?_
          refine rc_getR X (pc := 72) fX4_35 rb_ob8 rfl dX4_sheet_72 ?_
          refine rb_iload_n X (pc := 75) dX4_sheet_75 rfl rfl ?_
          refine rb_aald X (pc := 76) _ rfl (by omega) dX4_sheet_76 ?_
          refine rc_getI X (pc := 77) fX4_208 (rb_obS hq) rfl (show _ = (if b = 0 then 0 else nI m) by rw [show (rb_rowl (rb_u (rb_u (tw h 0 (sT σ)) (4 + q) 0 0 b) (4 + q) 1 0 (if b = 0 then 0 else nI m)) (4 + q) 2 (fun _ => 0)).1 = (rb_u (rb_u (tw h 0 (sT σ)) (4 + q) 0 0 b) (4 + q) 1 0 (if b = 0 then 0 else nI m)).1 from rfl, rb_u_row, rb_row_same]; simp [va_up]) dX4_sheet_77 ?_
          refine rb_iret (S := []) X (pc := 80) Y dX4_sheet_80 ?_
          have hz : (if b = 0 then (0 : Int32) else nI m) = nI (ix (if b = 0 then (0 : Int32) else nI m)) := by
            by_cases z : b = 0
            · simp [z]; rfl
            · simp [z, em]
          have e3 := CI_U (CI_Zn (CI_Wb hC hq b) hq (ix (if b = 0 then (0 : Int32) else nI m))) hq (fun _ => 0)
          rw [← hz] at e3
          refine pc_g e3 ?_ ?_ ?_
          · show (rb_u (rb_u (tw h 0 (sT σ)) (4 + q) 0 0 b) (4 + q) 1 0 _).1 9 = _
            rw [rb_u_row, rb_row_o (by omega), rb_u_row, rb_row_o (by omega)]
          · rw [rb_rowl_o (by omega)]; rfl
          · rw [r_sheet, if_pos (by rw [c4, cb]; rfl), if_neg (Int32.not_lt.mpr c37), if_neg (Int32.not_lt.mpr c50), eq1]
            rfl
        · refine rb_aload_n X (pc := 53) dX4_sheet_53 rfl rfl ?_
          refine rb_ldc X (pc := 54) dX4_sheet_54 kX4_56 ?_
          refine rc_callVi X (pc := 56) cvX4_finding mX4_57 rb_ob8 (qX4_finding (i := 0) (by decide) (by decide)) (by decide) rfl rfl (Nat.le_of_ble_eq_true rfl) dX4_sheet_56 ?_
          refine rb_iret (S := []) X (pc := 59) Y dX4_sheet_59 ?_
          exact pc_f hC (by rw [r_sheet, if_pos (by rw [c4, cb]; rfl), if_neg (Int32.not_lt.mpr c37), if_pos (Int32.not_le.mp c50), ff_0])
      · refine rb_aload_n X (pc := 40) dX4_sheet_40 rfl rfl ?_
        refine rb_ldc X (pc := 41) dX4_sheet_41 kX4_204 ?_
        refine rc_callVi X (pc := 43) cvX4_finding mX4_57 rb_ob8 (qX4_finding (i := 6) (by decide) (by decide)) (by decide) rfl rfl (Nat.le_of_ble_eq_true rfl) dX4_sheet_43 ?_
        refine rb_iret (S := []) X (pc := 46) Y dX4_sheet_46 ?_
        exact pc_f hC (by simp only [r_sheet, c4, cb, eq1]; simp [Int32.not_le.mp c37, ff_6])
    · refine rb_iload_n X (pc := 11) dX4_sheet_11 rfl rfl ?_
      refine rb_bipush (v := 8) X (pc := 12) dX4_sheet_12 (by decide) ?_
      refine rb_icmp_eq X (pc := 14) (tgt := 36) dX4_sheet_14 (by decide) (fun c14 => ?_) (fun c14 => ?_)
      · have cb : (decide (b = 0) || decide (b = 8) || decide (b = 16) || decide (b = 64)) = true := by simp_all
        refine rb_iload_n X (pc := 36) dX4_sheet_36 rfl rfl ?_
        refine rb_if_ge X (pc := 37) (tgt := 47) dX4_sheet_37 (by decide) (fun c37 => ?_) (fun c37 => ?_)
        · refine rb_iload_n X (pc := 47) dX4_sheet_47 rfl rfl ?_
          refine rb_bipush (v := 40) X (pc := 48) dX4_sheet_48 (by decide) ?_
          refine rb_icmp_le X (pc := 50) (tgt := 60) dX4_sheet_50 (by decide) (fun c50 => ?_) (fun c50 => ?_)
          · obtain ⟨m, hm, rfl⟩ := sp_rngL (n := 40) (by decide) c37 c50
            have em : ix (nI m) = m := nI_clamp (by omega)
            refine rb_aload_n X (pc := 60) dX4_sheet_60 rfl rfl ?_
            refine rc_getR X (pc := 61) fX4_35 rb_ob8 rfl dX4_sheet_61 ?_
            refine rb_iload_n X (pc := 64) dX4_sheet_64 rfl rfl ?_
            refine rb_aald X (pc := 65) _ rfl (by omega) dX4_sheet_65 ?_
            refine rb_iload_n X (pc := 66) dX4_sheet_66 rfl rfl ?_
            refine rb_iload_n X (pc := 67) dX4_sheet_67 rfl rfl ?_
            refine rc_callVv X (pc := 68) cvX1_begin mX4_205 (rb_obS hq) (qX1_begin _ _ hq) (by decide) rfl rfl (Nat.le_of_ble_eq_true rfl) dX4_sheet_68 ?_
            refine rb_aload_n X (pc := 71) dX4_sheet_71 rfl rfl ?_
            refine rc_getR X (pc := 72) fX4_35 rb_ob8 rfl dX4_sheet_72 ?_
            refine rb_iload_n X (pc := 75) dX4_sheet_75 rfl rfl ?_
            refine rb_aald X (pc := 76) _ rfl (by omega) dX4_sheet_76 ?_
            refine rc_getI X (pc := 77) fX4_208 (rb_obS hq) rfl (show _ = (if b = 0 then 0 else nI m) by rw [show (rb_rowl (rb_u (rb_u (tw h 0 (sT σ)) (4 + q) 0 0 b) (4 + q) 1 0 (if b = 0 then 0 else nI m)) (4 + q) 2 (fun _ => 0)).1 = (rb_u (rb_u (tw h 0 (sT σ)) (4 + q) 0 0 b) (4 + q) 1 0 (if b = 0 then 0 else nI m)).1 from rfl, rb_u_row, rb_row_same]; simp [va_up]) dX4_sheet_77 ?_
            refine rb_iret (S := []) X (pc := 80) Y dX4_sheet_80 ?_
            have hz : (if b = 0 then (0 : Int32) else nI m) = nI (ix (if b = 0 then (0 : Int32) else nI m)) := by
              by_cases z : b = 0
              · simp [z]; rfl
              · simp [z, em]
            have e3 := CI_U (CI_Zn (CI_Wb hC hq b) hq (ix (if b = 0 then (0 : Int32) else nI m))) hq (fun _ => 0)
            rw [← hz] at e3
            refine pc_g e3 ?_ ?_ ?_
            · show (rb_u (rb_u (tw h 0 (sT σ)) (4 + q) 0 0 b) (4 + q) 1 0 _).1 9 = _
              rw [rb_u_row, rb_row_o (by omega), rb_u_row, rb_row_o (by omega)]
            · rw [rb_rowl_o (by omega)]; rfl
            · rw [r_sheet, if_pos (by rw [c4, cb]; rfl), if_neg (Int32.not_lt.mpr c37), if_neg (Int32.not_lt.mpr c50), eq1]
              rfl
          · refine rb_aload_n X (pc := 53) dX4_sheet_53 rfl rfl ?_
            refine rb_ldc X (pc := 54) dX4_sheet_54 kX4_56 ?_
            refine rc_callVi X (pc := 56) cvX4_finding mX4_57 rb_ob8 (qX4_finding (i := 0) (by decide) (by decide)) (by decide) rfl rfl (Nat.le_of_ble_eq_true rfl) dX4_sheet_56 ?_
            refine rb_iret (S := []) X (pc := 59) Y dX4_sheet_59 ?_
            exact pc_f hC (by rw [r_sheet, if_pos (by rw [c4, cb]; rfl), if_neg (Int32.not_lt.mpr c37), if_pos (Int32.not_le.mp c50), ff_0])
        · refine rb_aload_n X (pc := 40) dX4_sheet_40 rfl rfl ?_
          refine rb_ldc X (pc := 41) dX4_sheet_41 kX4_204 ?_
          refine rc_callVi X (pc := 43) cvX4_finding mX4_57 rb_ob8 (qX4_finding (i := 6) (by decide) (by decide)) (by decide) rfl rfl (Nat.le_of_ble_eq_true rfl) dX4_sheet_43 ?_
          refine rb_iret (S := []) X (pc := 46) Y dX4_sheet_46 ?_
          exact pc_f hC (by simp only [r_sheet, c4, cb, eq1]; simp [Int32.not_le.mp c37, ff_6])
      · refine rb_iload_n X (pc := 17) dX4_sheet_17 rfl rfl ?_
        refine rb_bipush (v := 16) X (pc := 18) dX4_sheet_18 (by decide) ?_
        refine rb_icmp_eq X (pc := 20) (tgt := 36) dX4_sheet_20 (by decide) (fun c20 => ?_) (fun c20 => ?_)
        · have cb : (decide (b = 0) || decide (b = 8) || decide (b = 16) || decide (b = 64)) = true := by simp_all
          refine rb_iload_n X (pc := 36) dX4_sheet_36 rfl rfl ?_
          refine rb_if_ge X (pc := 37) (tgt := 47) dX4_sheet_37 (by decide) (fun c37 => ?_) (fun c37 => ?_)
          · refine rb_iload_n X (pc := 47) dX4_sheet_47 rfl rfl ?_
            refine rb_bipush (v := 40) X (pc := 48) dX4_sheet_48 (by decide) ?_
            refine rb_icmp_le X (pc := 50) (tgt := 60) dX4_sheet_50 (by decide) (fun c50 => ?_) (fun c50 => ?_)
            · obtain ⟨m, hm, rfl⟩ := sp_rngL (n := 40) (by decide) c37 c50
              have em : ix (nI m) = m := nI_clamp (by omega)
              refine rb_aload_n X (pc := 60) dX4_sheet_60 rfl rfl ?_
              refine rc_getR X (pc := 61) fX4_35 rb_ob8 rfl dX4_sheet_61 ?_
              refine rb_iload_n X (pc := 64) dX4_sheet_64 rfl rfl ?_
              refine rb_aald X (pc := 65) _ rfl (by omega) dX4_sheet_65 ?_
              refine rb_iload_n X (pc := 66) dX4_sheet_66 rfl rfl ?_
              refine rb_iload_n X (pc := 67) dX4_sheet_67 rfl rfl ?_
              refine rc_callVv X (pc := 68) cvX1_begin mX4_205 (rb_obS hq) (qX1_begin _ _ hq) (by decide) rfl rfl (Nat.le_of_ble_eq_true rfl) dX4_sheet_68 ?_
              refine rb_aload_n X (pc := 71) dX4_sheet_71 rfl rfl ?_
              refine rc_getR X (pc := 72) fX4_35 rb_ob8 rfl dX4_sheet_72 ?_
              refine rb_iload_n X (pc := 75) dX4_sheet_75 rfl rfl ?_
              refine rb_aald X (pc := 76) _ rfl (by omega) dX4_sheet_76 ?_
              refine rc_getI X (pc := 77) fX4_208 (rb_obS hq) rfl (show _ = (if b = 0 then 0 else nI m) by rw [show (rb_rowl (rb_u (rb_u (tw h 0 (sT σ)) (4 + q) 0 0 b) (4 + q) 1 0 (if b = 0 then 0 else nI m)) (4 + q) 2 (fun _ => 0)).1 = (rb_u (rb_u (tw h 0 (sT σ)) (4 + q) 0 0 b) (4 + q) 1 0 (if b = 0 then 0 else nI m)).1 from rfl, rb_u_row, rb_row_same]; simp [va_up]) dX4_sheet_77 ?_
              refine rb_iret (S := []) X (pc := 80) Y dX4_sheet_80 ?_
              have hz : (if b = 0 then (0 : Int32) else nI m) = nI (ix (if b = 0 then (0 : Int32) else nI m)) := by
                by_cases z : b = 0
                · simp [z]; rfl
                · simp [z, em]
              have e3 := CI_U (CI_Zn (CI_Wb hC hq b) hq (ix (if b = 0 then (0 : Int32) else nI m))) hq (fun _ => 0)
              rw [← hz] at e3
              refine pc_g e3 ?_ ?_ ?_
              · show (rb_u (rb_u (tw h 0 (sT σ)) (4 + q) 0 0 b) (4 + q) 1 0 _).1 9 = _
                rw [rb_u_row, rb_row_o (by omega), rb_u_row, rb_row_o (by omega)]
              · rw [rb_rowl_o (by omega)]; rfl
              · rw [r_sheet, if_pos (by rw [c4, cb]; rfl), if_neg (Int32.not_lt.mpr c37), if_neg (Int32.not_lt.mpr c50), eq1]
                rfl
            · refine rb_aload_n X (pc := 53) dX4_sheet_53 rfl rfl ?_
              refine rb_ldc X (pc := 54) dX4_sheet_54 kX4_56 ?_
              refine rc_callVi X (pc := 56) cvX4_finding mX4_57 rb_ob8 (qX4_finding (i := 0) (by decide) (by decide)) (by decide) rfl rfl (Nat.le_of_ble_eq_true rfl) dX4_sheet_56 ?_
              refine rb_iret (S := []) X (pc := 59) Y dX4_sheet_59 ?_
              exact pc_f hC (by rw [r_sheet, if_pos (by rw [c4, cb]; rfl), if_neg (Int32.not_lt.mpr c37), if_pos (Int32.not_le.mp c50), ff_0])
          · refine rb_aload_n X (pc := 40) dX4_sheet_40 rfl rfl ?_
            refine rb_ldc X (pc := 41) dX4_sheet_41 kX4_204 ?_
            refine rc_callVi X (pc := 43) cvX4_finding mX4_57 rb_ob8 (qX4_finding (i := 6) (by decide) (by decide)) (by decide) rfl rfl (Nat.le_of_ble_eq_true rfl) dX4_sheet_43 ?_
            refine rb_iret (S := []) X (pc := 46) Y dX4_sheet_46 ?_
            exact pc_f hC (by simp only [r_sheet, c4, cb, eq1]; simp [Int32.not_le.mp c37, ff_6])
        · refine rb_iload_n X (pc := 23) dX4_sheet_23 rfl rfl ?_
          refine rb_bipush (v := 64) X (pc := 24) dX4_sheet_24 (by decide) ?_
          refine rb_icmp_eq X (pc := 26) (tgt := 36) dX4_sheet_26 (by decide) (fun c26 => ?_) (fun c26 => ?_)
          · have cb : (decide (b = 0) || decide (b = 8) || decide (b = 16) || decide (b = 64)) = true := by simp_all
            refine rb_iload_n X (pc := 36) dX4_sheet_36 rfl rfl ?_
            refine rb_if_ge X (pc := 37) (tgt := 47) dX4_sheet_37 (by decide) (fun c37 => ?_) (fun c37 => ?_)
            · refine rb_iload_n X (pc := 47) dX4_sheet_47 rfl rfl ?_
              refine rb_bipush (v := 40) X (pc := 48) dX4_sheet_48 (by decide) ?_
              refine rb_icmp_le X (pc := 50) (tgt := 60) dX4_sheet_50 (by decide) (fun c50 => ?_) (fun c50 => ?_)
              · obtain ⟨m, hm, rfl⟩ := sp_rngL (n := 40) (by decide) c37 c50
                have em : ix (nI m) = m := nI_clamp (by omega)
                refine rb_aload_n X (pc := 60) dX4_sheet_60 rfl rfl ?_
                refine rc_getR X (pc := 61) fX4_35 rb_ob8 rfl dX4_sheet_61 ?_
                refine rb_iload_n X (pc := 64) dX4_sheet_64 rfl rfl ?_
                refine rb_aald X (pc := 65) _ rfl (by omega) dX4_sheet_65 ?_
                refine rb_iload_n X (pc := 66) dX4_sheet_66 rfl rfl ?_
                refine rb_iload_n X (pc := 67) dX4_sheet_67 rfl rfl ?_
                refine rc_callVv X (pc := 68) cvX1_begin mX4_205 (rb_obS hq) (qX1_begin _ _ hq) (by decide) rfl rfl (Nat.le_of_ble_eq_true rfl) dX4_sheet_68 ?_
                refine rb_aload_n X (pc := 71) dX4_sheet_71 rfl rfl ?_
                refine rc_getR X (pc := 72) fX4_35 rb_ob8 rfl dX4_sheet_72 ?_
                refine rb_iload_n X (pc := 75) dX4_sheet_75 rfl rfl ?_
                refine rb_aald X (pc := 76) _ rfl (by omega) dX4_sheet_76 ?_
                refine rc_getI X (pc := 77) fX4_208 (rb_obS hq) rfl (show _ = (if b = 0 then 0 else nI m) by rw [show (rb_rowl (rb_u (rb_u (tw h 0 (sT σ)) (4 + q) 0 0 b) (4 + q) 1 0 (if b = 0 then 0 else nI m)) (4 + q) 2 (fun _ => 0)).1 = (rb_u (rb_u (tw h 0 (sT σ)) (4 + q) 0 0 b) (4 + q) 1 0 (if b = 0 then 0 else nI m)).1 from rfl, rb_u_row, rb_row_same]; simp [va_up]) dX4_sheet_77 ?_
                refine rb_iret (S := []) X (pc := 80) Y dX4_sheet_80 ?_
                have hz : (if b = 0 then (0 : Int32) else nI m) = nI (ix (if b = 0 then (0 : Int32) else nI m)) := by
                  by_cases z : b = 0
                  · simp [z]; rfl
                  · simp [z, em]
                have e3 := CI_U (CI_Zn (CI_Wb hC hq b) hq (ix (if b = 0 then (0 : Int32) else nI m))) hq (fun _ => 0)
                rw [← hz] at e3
                refine pc_g e3 ?_ ?_ ?_
                · show (rb_u (rb_u (tw h 0 (sT σ)) (4 + q) 0 0 b) (4 + q) 1 0 _).1 9 = _
                  rw [rb_u_row, rb_row_o (by omega), rb_u_row, rb_row_o (by omega)]
                · rw [rb_rowl_o (by omega)]; rfl
                · rw [r_sheet, if_pos (by rw [c4, cb]; rfl), if_neg (Int32.not_lt.mpr c37), if_neg (Int32.not_lt.mpr c50), eq1]
                  rfl
              · refine rb_aload_n X (pc := 53) dX4_sheet_53 rfl rfl ?_
                refine rb_ldc X (pc := 54) dX4_sheet_54 kX4_56 ?_
                refine rc_callVi X (pc := 56) cvX4_finding mX4_57 rb_ob8 (qX4_finding (i := 0) (by decide) (by decide)) (by decide) rfl rfl (Nat.le_of_ble_eq_true rfl) dX4_sheet_56 ?_
                refine rb_iret (S := []) X (pc := 59) Y dX4_sheet_59 ?_
                exact pc_f hC (by rw [r_sheet, if_pos (by rw [c4, cb]; rfl), if_neg (Int32.not_lt.mpr c37), if_pos (Int32.not_le.mp c50), ff_0])
            · refine rb_aload_n X (pc := 40) dX4_sheet_40 rfl rfl ?_
              refine rb_ldc X (pc := 41) dX4_sheet_41 kX4_204 ?_
              refine rc_callVi X (pc := 43) cvX4_finding mX4_57 rb_ob8 (qX4_finding (i := 6) (by decide) (by decide)) (by decide) rfl rfl (Nat.le_of_ble_eq_true rfl) dX4_sheet_43 ?_
              refine rb_iret (S := []) X (pc := 46) Y dX4_sheet_46 ?_
              exact pc_f hC (by simp only [r_sheet, c4, cb, eq1]; simp [Int32.not_le.mp c37, ff_6])
          · refine rb_aload_n X (pc := 29) dX4_sheet_29 rfl rfl ?_
            refine rb_ldc X (pc := 30) dX4_sheet_30 kX4_56 ?_
            refine rc_callVi X (pc := 32) cvX4_finding mX4_57 rb_ob8 (qX4_finding (i := 0) (by decide) (by decide)) (by decide) rfl rfl (Nat.le_of_ble_eq_true rfl) dX4_sheet_32 ?_
            refine rb_iret (S := []) X (pc := 35) Y dX4_sheet_35 ?_
            exact pc_f hC (by first | (simp [r_sheet, ff_0, c4]; done) | (simp only [r_sheet, c4]; simp_all [ff_0]; done))
set_option maxRecDepth 100000 in
set_option maxHeartbeats 1000000 in
theorem qX4_write {G : rb_G} {σ : Sg} {h : rb_H} (hS : okS σ) (hC : CI σ h) (s i : Int32) (v : Int64) : rb_M G 1 yX4_write cX4_write 8 (some .long) [.ref (rb_ad G 8 0), .int s, .int i, .long v] (h) (PCl h (r_write σ s i v)) := by
  refine rb_meth (L := [.ref (rb_ad G 8 0), .int s, .int i, .long v, .null, .null, .null, .null]) (by decide) (Nat.le_of_ble_eq_true rfl) rfl (fun Z X Y => ?_)
  have X : rb_CX Z G cX4_write 8 RX4 1 := X
  obtain ⟨h, rfl⟩ : ∃ h0, h = tw h0 0 (sT σ) := ⟨h, (rb_st_self hC.1).symm⟩
  have hok := hS.1
  have hn4 := hok.1
  have hn10 := hok.2.1
  refine rb_iload_n X (pc := 0) dX4_write_0 rfl rfl ?_
  refine rc_callSi X (pc := 1) cvX4_isSheet mX4_201 (qX4_isSheet _) (by decide) rfl rfl (Nat.le_of_ble_eq_true rfl) dX4_write_1 ?_
  refine rb_if_ne X (pc := 4) (tgt := 15) dX4_write_4 (by decide) (fun c4 => ?_) (fun c4 => ?_)
  · (try simp only [sp_b0, Classical.not_not] at c4)
    obtain ⟨q, hq, rfl⟩ := iS_of c4
    have eq1 : ix (nI q) = q := nI_clamp (by omega)
    have hZ := hS.2.2.2.2 q hq
    obtain ⟨hw0, hw1, hw2⟩ := hC.2.2.2.2.2.2 q hq
    refine rb_aload_n X (pc := 15) dX4_write_15 rfl rfl ?_
    refine rc_getR X (pc := 16) fX4_35 rb_ob8 rfl dX4_write_16 ?_
    refine rb_iload_n X (pc := 19) dX4_write_19 rfl rfl ?_
    refine rb_aald X (pc := 20) _ rfl (by omega) dX4_write_20 ?_
    refine rb_astore X (pc := 21) dX4_write_21 (by decide) rfl rfl ?_
    refine rb_aload X (pc := 23) dX4_write_23 rfl ?_
    refine rc_callVi X (pc := 25) cvX1_isMissing mX4_209 (rb_obS hq) (qX1_isMissing (by assumption)) (by decide) rfl rfl (Nat.le_of_ble_eq_true rfl) dX4_write_25 ?_
    refine rb_if_eq X (pc := 28) (tgt := 39) dX4_write_28 (by decide) (fun c28 => ?_) (fun c28 => ?_)
    · (try simp only [sp_b0, Classical.not_not] at c28)
      rw [hw0] at c28
      refine rb_iload_n X (pc := 39) dX4_write_39 rfl rfl ?_
      refine rb_if_lt X (pc := 40) (tgt := 52) dX4_write_40 (by decide) (fun c40 => ?_) (fun c40 => ?_)
      · refine rb_aload_n X (pc := 52) dX4_write_52 rfl rfl ?_
        refine rb_ldc X (pc := 53) dX4_write_53 kX4_56 ?_
        refine rc_callVi X (pc := 55) cvX4_finding mX4_57 rb_ob8 (qX4_finding (i := 0) (by decide) (by decide)) (by decide) rfl rfl (Nat.le_of_ble_eq_true rfl) dX4_write_55 ?_
        refine rb_i2l X (pc := 58) dX4_write_58 ?_
        refine rb_lret (S := []) X (pc := 59) Y dX4_write_59 ?_
        exact pcl_f hC (by rw [r_write, if_pos c4, eq1, if_neg c28, if_neg, ffl_0]; intro z; first | exact absurd z.1 (Int32.not_le.mpr c40) | exact c49 z.2)
      · refine rb_iload_n X (pc := 43) dX4_write_43 rfl rfl ?_
        refine rb_aload X (pc := 44) dX4_write_44 rfl ?_
        refine rc_getI X (pc := 46) fX4_208 (rb_obS hq) rfl hw1 dX4_write_46 ?_
        refine rb_icmp_lt X (pc := 49) (tgt := 60) dX4_write_49 (by decide) (fun c49 => ?_) (fun c49 => ?_)
        · obtain ⟨j, hj, rfl⟩ := sp_rng (n := sZ σ q) (by omega) (Int32.not_lt.mp c40) c49
          have ej : ix (nI j) = j := nI_clamp (by omega)
          refine rb_aload X (pc := 60) dX4_write_60 rfl ?_
          refine rc_getR X (pc := 62) fX4_213 (rb_obS hq) rfl dX4_write_62 ?_
          refine rb_iload_n X (pc := 65) dX4_write_65 rfl rfl ?_
          refine rc_lald X (pc := 66) _ (rb_arS2 hq) hw2 rfl (by omega) dX4_write_66 ?_
          refine rb_lstore X (pc := 67) dX4_write_67 (by decide) rfl rfl ?_
          refine rb_aload X (pc := 69) dX4_write_69 rfl ?_
          refine rb_iload_n X (pc := 71) dX4_write_71 rfl rfl ?_
          refine rb_lload_n X (pc := 72) dX4_write_72 rfl rfl ?_
          refine rc_callVv X (pc := 73) cvX1_put mX4_217 (rb_obS hq) (qX1_put hq (by omega)) (by decide) rfl rfl (Nat.le_of_ble_eq_true rfl) dX4_write_73 ?_
          refine rb_lload X (pc := 76) dX4_write_76 rfl ?_
          refine rb_lret (S := []) X (pc := 78) Y dX4_write_78 ?_
          refine pcl_g (CI_U hC hq _) rfl ?_ ?_
          · show (rb_rowl _ (4 + q) 2 _).2 9 = _
            rw [rb_rowl_o (by omega)]
          · rw [r_write, if_pos c4, eq1, if_neg c28, if_pos ⟨Int32.not_lt.mp c40, c49⟩, ej, hw0, hw2]
        · refine rb_aload_n X (pc := 52) dX4_write_52 rfl rfl ?_
          refine rb_ldc X (pc := 53) dX4_write_53 kX4_56 ?_
          refine rc_callVi X (pc := 55) cvX4_finding mX4_57 rb_ob8 (qX4_finding (i := 0) (by decide) (by decide)) (by decide) rfl rfl (Nat.le_of_ble_eq_true rfl) dX4_write_55 ?_
          refine rb_i2l X (pc := 58) dX4_write_58 ?_
          refine rb_lret (S := []) X (pc := 59) Y dX4_write_59 ?_
          exact pcl_f hC (by rw [r_write, if_pos c4, eq1, if_neg c28, if_neg, ffl_0]; intro z; first | exact absurd z.1 (Int32.not_le.mpr c40) | exact c49 z.2)
    · (try simp only [sp_b0, Classical.not_not] at c28)
      rw [hw0] at c28
      refine rb_aload_n X (pc := 31) dX4_write_31 rfl rfl ?_
      refine rb_ldc X (pc := 32) dX4_write_32 kX4_212 ?_
      refine rc_callVi X (pc := 34) cvX4_finding mX4_57 rb_ob8 (qX4_finding (i := 5) (by decide) (by decide)) (by decide) rfl rfl (Nat.le_of_ble_eq_true rfl) dX4_write_34 ?_
      refine rb_i2l X (pc := 37) dX4_write_37 ?_
      refine rb_lret (S := []) X (pc := 38) Y dX4_write_38 ?_
      exact pcl_f hC (by simp [r_write, c4, eq1, c28, ffl_5])
  · (try simp only [sp_b0, Classical.not_not] at c4)
    refine rb_aload_n X (pc := 7) dX4_write_7 rfl rfl ?_
    refine rb_ldc X (pc := 8) dX4_write_8 kX4_56 ?_
    refine rc_callVi X (pc := 10) cvX4_finding mX4_57 rb_ob8 (qX4_finding (i := 0) (by decide) (by decide)) (by decide) rfl rfl (Nat.le_of_ble_eq_true rfl) dX4_write_10 ?_
    refine rb_i2l X (pc := 13) dX4_write_13 ?_
    refine rb_lret (S := []) X (pc := 14) Y dX4_write_14 ?_
    exact pcl_f hC (by simp [r_write, c4, ffl_0])
