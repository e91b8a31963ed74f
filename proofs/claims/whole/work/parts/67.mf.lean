theorem kf_emp {T : rb_T} {q : Nat} (hq : q < 8) : k_fst T (3 + 3 * q + 1) 0 = k_emp T q := by
  unfold k_fst k_emp
  simp only [enc_h hq (show 1 < 3 by decide)]
theorem kf_out {T : rb_T} {r : Nat} (hr : r < 10) : k_fst T (27 + 5 * r + 4) (-1) = k_out T r := by
  unfold k_fst k_out
  simp only [enc_r hr (show 4 < 5 by decide)]
set_option maxRecDepth 100000 in
set_option maxHeartbeats 1000000 in
theorem qX5_on {G : rb_G} {σ : Sg} {h : rb_H} (hS : okS σ) (hM : MI σ h)  (r0 n0 w : Int32) : rb_M G 9 yX5_on cX5_on 4 (some .int) [.ref (rb_ad G 9 0), .int r0, .int n0, .int w] (h) (PM h (r_on σ r0 n0 w)) := by
  refine rb_meth (L := [.ref (rb_ad G 9 0), .int r0, .int n0, .int w]) (by decide) (Nat.le_of_ble_eq_true rfl) rfl (fun Z X Y => ?_)
  have X : rb_CX Z G cX5_on 4 RX5 9 := X
  obtain ⟨h, rfl⟩ : ∃ h0, h = ms h0 (sT σ) := ⟨h, (rb_row_self hM.1).symm⟩
  have hok := hS.1
  have hn4 := hok.1
  have hn10 := hok.2.1
  refine rb_aload_n X (pc := 0) dX5_on_0 rfl rfl ?_
  refine rb_iload_n X (pc := 1) dX5_on_1 rfl rfl ?_
  refine rc_callVi X (pc := 2) cvX5_isRumour mX5_106 rb_ob9 (qX5_isRumour hn4 hn10 _) (by decide) rfl rfl (Nat.le_of_ble_eq_true rfl) dX5_on_2 ?_
  refine rb_if_eq X (pc := 5) (tgt := 25) dX5_on_5 (by decide) (fun c5 => ?_) (fun c5 => ?_)
  · (try simp only [sp_b0, Classical.not_not] at c5)
    have eR : r_on σ r0 n0 w = (-1000000001, fnd σ 0) := by simp [r_on, c5, ff_0]
    refine rb_aload_n X (pc := 25) dX5_on_25 rfl rfl ?_
    refine rb_ldc X (pc := 26) dX5_on_26 kX5_45 ?_
    refine rc_callVi X (pc := 28) cvX5_finds mX5_74 rb_ob9 (qX5_finds (i := 0) (by decide) (by decide)) (by decide) rfl rfl (Nat.le_of_ble_eq_true rfl) dX5_on_28 ?_
    refine rb_iret (S := []) X (pc := 31) Y dX5_on_31 ?_
    exact pm_f hM eR
  · (try simp only [sp_b0, Classical.not_not] at c5)
    refine rb_iload_n X (pc := 8) dX5_on_8 rfl rfl ?_
    refine rc_callSi X (pc := 9) cvX5_isAhead mX5_190 (qX5_isAhead _) (by decide) rfl rfl (Nat.le_of_ble_eq_true rfl) dX5_on_9 ?_
    refine rb_if_eq X (pc := 12) (tgt := 25) dX5_on_12 (by decide) (fun c12 => ?_) (fun c12 => ?_)
    · (try simp only [sp_b0, Classical.not_not] at c12)
      have eR : r_on σ r0 n0 w = (-1000000001, fnd σ 0) := by simp [r_on, c5, c12, ff_0]
      refine rb_aload_n X (pc := 25) dX5_on_25 rfl rfl ?_
      refine rb_ldc X (pc := 26) dX5_on_26 kX5_45 ?_
      refine rc_callVi X (pc := 28) cvX5_finds mX5_74 rb_ob9 (qX5_finds (i := 0) (by decide) (by decide)) (by decide) rfl rfl (Nat.le_of_ble_eq_true rfl) dX5_on_28 ?_
      refine rb_iret (S := []) X (pc := 31) Y dX5_on_31 ?_
      exact pm_f hM eR
    · (try simp only [sp_b0, Classical.not_not] at c12)
      refine rb_iload_n X (pc := 15) dX5_on_15 rfl rfl ?_
      refine rb_i2l X (pc := 16) dX5_on_16 ?_
      refine rb_lconst (v := 0) X (pc := 17) dX5_on_17 (by decide) ?_
      refine rb_lconst (v := 1) X (pc := 18) dX5_on_18 (by decide) ?_
      refine rc_callSi X (pc := 19) cvX5_in mX5_48 (qJn (a := (0)) (b := (1)) rfl rfl) (by decide) rfl rfl (Nat.le_of_ble_eq_true rfl) dX5_on_19 ?_
      refine rb_if_ne X (pc := 22) (tgt := 32) dX5_on_22 (by decide) (fun c22 => ?_) (fun c22 => ?_)
      · (try simp only [sp_b0, Classical.not_not] at c22)
        obtain ⟨r, hr, rfl⟩ := iR_of hok c5
        have er : ix (nI r) = r := nI_clamp (by omega)
        obtain ⟨n, hn1, rfl⟩ := iN_of (n := 60) (by decide) c12
        have en : ix (nI n) = n := nI_clamp (by omega)
        have cW := iN_e.mp c22
        refine rb_aload_n X (pc := 32) dX5_on_32 rfl rfl ?_
        refine rb_iload_n X (pc := 33) dX5_on_33 rfl rfl ?_
        refine rb_iload_n X (pc := 34) dX5_on_34 rfl rfl ?_
        refine rb_if_ne X (pc := 35) (tgt := 42) dX5_on_35 (by decide) (fun c35 => ?_) (fun c35 => ?_)
        · have eR : r_on σ (nI r) (nI n) w = (enc (sp_days (sT σ) n) (27 + 5 * r + 2), σ) := by rw [r_on, c5, c12, cW, enc_r (by omega) (by decide), if_neg c35, en, er]; rfl
          refine rb_iconst (v := 2) X (pc := 42) dX5_on_42 (by decide) ?_
          refine rc_callSi X (pc := 43) cvX5_spotOf mX5_56 (qX5_spotOf (w := 2)) (by decide) rfl rfl (Nat.le_of_ble_eq_true rfl) dX5_on_43 ?_
          refine rb_iload_n X (pc := 46) dX5_on_46 rfl rfl ?_
          refine rc_callVi X (pc := 47) cvX5_behind mX5_193 rb_ob9 (qX5_behind hok (by omega) (by omega)) (by decide) rfl rfl (Nat.le_of_ble_eq_true rfl) dX5_on_47 ?_
          refine rb_iret (S := []) X (pc := 50) Y dX5_on_50 ?_
          exact pm_A hM eR
        · have c35 : w = 0 := by simpa using c35
          have eR : r_on σ (nI r) (nI n) w = (enc (sp_days (sT σ) n) (27 + 5 * r + 4), σ) := by rw [r_on, c5, c12, cW, enc_r (by omega) (by decide), if_pos c35, en, er]; rfl
          refine rb_iconst (v := 4) X (pc := 38) dX5_on_38 (by decide) ?_
          refine rb_goto X (pc := 39) (tgt := 43) dX5_on_39 (by decide) ?_
          refine rc_callSi X (pc := 43) cvX5_spotOf mX5_56 (qX5_spotOf (w := 4)) (by decide) rfl rfl (Nat.le_of_ble_eq_true rfl) dX5_on_43 ?_
          refine rb_iload_n X (pc := 46) dX5_on_46 rfl rfl ?_
          refine rc_callVi X (pc := 47) cvX5_behind mX5_193 rb_ob9 (qX5_behind hok (by omega) (by omega)) (by decide) rfl rfl (Nat.le_of_ble_eq_true rfl) dX5_on_47 ?_
          refine rb_iret (S := []) X (pc := 50) Y dX5_on_50 ?_
          exact pm_A hM eR
      · (try simp only [sp_b0, Classical.not_not] at c22)
        have cW : ¬ iN w 1 = true := fun z => c22 (iN_e.mpr z)
        have eR : r_on σ r0 n0 w = (-1000000001, fnd σ 0) := by simp [r_on, c5, c12, cW, ff_0]
        refine rb_aload_n X (pc := 25) dX5_on_25 rfl rfl ?_
        refine rb_ldc X (pc := 26) dX5_on_26 kX5_45 ?_
        refine rc_callVi X (pc := 28) cvX5_finds mX5_74 rb_ob9 (qX5_finds (i := 0) (by decide) (by decide)) (by decide) rfl rfl (Nat.le_of_ble_eq_true rfl) dX5_on_28 ?_
        refine rb_iret (S := []) X (pc := 31) Y dX5_on_31 ?_
        exact pm_f hM eR
set_option maxRecDepth 100000 in
set_option maxHeartbeats 1000000 in
theorem qX5_larder {G : rb_G} {σ : Sg} {h : rb_H} (hS : okS σ) (hM : MI σ h)  (a n0 : Int32) : rb_M G 9 yX5_larder cX5_larder 3 (some .int) [.ref (rb_ad G 9 0), .int a, .int n0] (h) (PM h (r_larder σ a n0)) := by
  refine rb_meth (L := [.ref (rb_ad G 9 0), .int a, .int n0]) (by decide) (Nat.le_of_ble_eq_true rfl) rfl (fun Z X Y => ?_)
  have X : rb_CX Z G cX5_larder 3 RX5 9 := X
  obtain ⟨h, rfl⟩ : ∃ h0, h = ms h0 (sT σ) := ⟨h, (rb_row_self hM.1).symm⟩
  have hok := hS.1
  have hn4 := hok.1
  have hn10 := hok.2.1
  refine rb_iload_n X (pc := 0) dX5_larder_0 rfl rfl ?_
  refine rc_callSi X (pc := 1) cvX5_isHouse mX5_67 (qX5_isHouse _) (by decide) rfl rfl (Nat.le_of_ble_eq_true rfl) dX5_larder_1 ?_
  refine rb_if_eq X (pc := 4) (tgt := 27) dX5_larder_4 (by decide) (fun c4 => ?_) (fun c4 => ?_)
  · (try simp only [sp_b0, Classical.not_not] at c4)
    have eR : r_larder σ a n0 = (-1000000001, fnd σ 0) := by simp [r_larder, c4, ff_0]
    refine rb_aload_n X (pc := 27) dX5_larder_27 rfl rfl ?_
    refine rb_ldc X (pc := 28) dX5_larder_28 kX5_45 ?_
    refine rc_callVi X (pc := 30) cvX5_finds mX5_74 rb_ob9 (qX5_finds (i := 0) (by decide) (by decide)) (by decide) rfl rfl (Nat.le_of_ble_eq_true rfl) dX5_larder_30 ?_
    refine rb_iret (S := []) X (pc := 33) Y dX5_larder_33 ?_
    first
    | exact pm_A hM eR
    | exact pm_f hM eR
  · (try simp only [sp_b0, Classical.not_not] at c4)
    refine rb_iload_n X (pc := 7) dX5_larder_7 rfl rfl ?_
    refine rc_callSi X (pc := 8) cvX5_isAhead mX5_190 (qX5_isAhead _) (by decide) rfl rfl (Nat.le_of_ble_eq_true rfl) dX5_larder_8 ?_
    refine rb_if_eq X (pc := 11) (tgt := 27) dX5_larder_11 (by decide) (fun c11 => ?_) (fun c11 => ?_)
    · (try simp only [sp_b0, Classical.not_not] at c11)
      have eR : r_larder σ a n0 = (-1000000001, fnd σ 0) := by simp [r_larder, c4, c11, ff_0]
      refine rb_aload_n X (pc := 27) dX5_larder_27 rfl rfl ?_
      refine rb_ldc X (pc := 28) dX5_larder_28 kX5_45 ?_
      refine rc_callVi X (pc := 30) cvX5_finds mX5_74 rb_ob9 (qX5_finds (i := 0) (by decide) (by decide)) (by decide) rfl rfl (Nat.le_of_ble_eq_true rfl) dX5_larder_30 ?_
      refine rb_iret (S := []) X (pc := 33) Y dX5_larder_33 ?_
      first
      | exact pm_A hM eR
      | exact pm_f hM eR
    · (try simp only [sp_b0, Classical.not_not] at c11)
      obtain ⟨q, hq, rfl⟩ := iH_of c4
      have eq1 : ix (nI q) = q := nI_clamp (by omega)
      obtain ⟨n, hn1, rfl⟩ := iN_of (n := 60) (by decide) c11
      have en : ix (nI n) = n := nI_clamp (by omega)
      have eR : r_larder σ (nI q) (nI n) = (enc (sp_days (sT σ) n) (3 + 3 * q + 1), σ) := by rw [r_larder, c4, c11, enc_h hq (by decide), en, eq1]; rfl
      refine rb_aload_n X (pc := 14) dX5_larder_14 rfl rfl ?_
      refine rb_iload_n X (pc := 15) dX5_larder_15 rfl rfl ?_
      refine rb_iconst (v := 1) X (pc := 16) dX5_larder_16 (by decide) ?_
      refine rc_callSi X (pc := 17) cvX5_partOf mX5_41 (qX5_partOf (w := 1)) (by decide) rfl rfl (Nat.le_of_ble_eq_true rfl) dX5_larder_17 ?_
      refine rb_iload_n X (pc := 20) dX5_larder_20 rfl rfl ?_
      refine rc_callVi X (pc := 21) cvX5_behind mX5_193 rb_ob9 (qX5_behind hok (by omega) (by omega)) (by decide) rfl rfl (Nat.le_of_ble_eq_true rfl) dX5_larder_21 ?_
      refine rb_goto X (pc := 24) (tgt := 33) dX5_larder_24 (by decide) ?_
      refine rb_iret (S := []) X (pc := 33) Y dX5_larder_33 ?_
      first
      | exact pm_A hM eR
      | exact pm_f hM eR
set_option maxRecDepth 100000 in
set_option maxHeartbeats 1000000 in
theorem qX5_many {G : rb_G} {σ : Sg} {h : rb_H} (hS : okS σ) (hM : MI σ h)  (n0 : Int32) : rb_M G 9 yX5_many cX5_many 2 (some .int) [.ref (rb_ad G 9 0), .int n0] (h) (PM h (r_many σ n0)) := by
  refine rb_meth (L := [.ref (rb_ad G 9 0), .int n0]) (by decide) (Nat.le_of_ble_eq_true rfl) rfl (fun Z X Y => ?_)
  have X : rb_CX Z G cX5_many 2 RX5 9 := X
  obtain ⟨h, rfl⟩ : ∃ h0, h = ms h0 (sT σ) := ⟨h, (rb_row_self hM.1).symm⟩
  have hok := hS.1
  have hn4 := hok.1
  have hn10 := hok.2.1
  refine rb_iload_n X (pc := 0) dX5_many_0 rfl rfl ?_
  refine rc_callSi X (pc := 1) cvX5_isAhead mX5_190 (qX5_isAhead _) (by decide) rfl rfl (Nat.le_of_ble_eq_true rfl) dX5_many_1 ?_
  refine rb_if_eq X (pc := 4) (tgt := 16) dX5_many_4 (by decide) (fun c4 => ?_) (fun c4 => ?_)
  · (try simp only [sp_b0, Classical.not_not] at c4)
    have eR : r_many σ n0 = (-1000000001, fnd σ 0) := by simp [r_many, c4, ff_0]
    refine rb_aload_n X (pc := 16) dX5_many_16 rfl rfl ?_
    refine rb_ldc X (pc := 17) dX5_many_17 kX5_45 ?_
    refine rc_callVi X (pc := 19) cvX5_finds mX5_74 rb_ob9 (qX5_finds (i := 0) (by decide) (by decide)) (by decide) rfl rfl (Nat.le_of_ble_eq_true rfl) dX5_many_19 ?_
    refine rb_iret (S := []) X (pc := 22) Y dX5_many_22 ?_
    first
    | exact pm_A hM eR
    | exact pm_f hM eR
  · (try simp only [sp_b0, Classical.not_not] at c4)
    obtain ⟨n, hn1, rfl⟩ := iN_of (n := 60) (by decide) c4
    have en : ix (nI n) = n := nI_clamp (by omega)
    have eR : r_many σ (nI n) = (enc (sp_days (sT σ) n) 0, σ) := by rw [r_many, if_pos c4, en]; rfl
    refine rb_aload_n X (pc := 7) dX5_many_7 rfl rfl ?_
    refine rb_iconst (v := 0) X (pc := 8) dX5_many_8 (by decide) ?_
    refine rb_iload_n X (pc := 9) dX5_many_9 rfl rfl ?_
    refine rc_callVi X (pc := 10) cvX5_behind mX5_193 rb_ob9 (qX5_behind (k := 0) hok (by decide) (by omega)) (by decide) rfl rfl (Nat.le_of_ble_eq_true rfl) dX5_many_10 ?_
    refine rb_goto X (pc := 13) (tgt := 22) dX5_many_13 (by decide) ?_
    refine rb_iret (S := []) X (pc := 22) Y dX5_many_22 ?_
    first
    | exact pm_A hM eR
    | exact pm_f hM eR
set_option maxRecDepth 100000 in
set_option maxHeartbeats 1000000 in
theorem qX5_empty {G : rb_G} {σ : Sg} {h : rb_H} (hS : okS σ) (hM : MI σ h)  (a : Int32) : rb_M G 9 yX5_empty cX5_empty 2 (some .int) [.ref (rb_ad G 9 0), .int a] (h) (PM h (r_empty σ a)) := by
  refine rb_meth (L := [.ref (rb_ad G 9 0), .int a]) (by decide) (Nat.le_of_ble_eq_true rfl) rfl (fun Z X Y => ?_)
  have X : rb_CX Z G cX5_empty 2 RX5 9 := X
  obtain ⟨h, rfl⟩ : ∃ h0, h = ms h0 (sT σ) := ⟨h, (rb_row_self hM.1).symm⟩
  have hok := hS.1
  have hn4 := hok.1
  have hn10 := hok.2.1
  refine rb_iload_n X (pc := 0) dX5_empty_0 rfl rfl ?_
  refine rc_callSi X (pc := 1) cvX5_isHouse mX5_67 (qX5_isHouse _) (by decide) rfl rfl (Nat.le_of_ble_eq_true rfl) dX5_empty_1 ?_
  refine rb_if_eq X (pc := 4) (tgt := 20) dX5_empty_4 (by decide) (fun c4 => ?_) (fun c4 => ?_)
  · (try simp only [sp_b0, Classical.not_not] at c4)
    have eR : r_empty σ a = (-1000000001, fnd σ 0) := by simp [r_empty, c4, ff_0]
    refine rb_aload_n X (pc := 20) dX5_empty_20 rfl rfl ?_
    refine rb_ldc X (pc := 21) dX5_empty_21 kX5_45 ?_
    refine rc_callVi X (pc := 23) cvX5_finds mX5_74 rb_ob9 (qX5_finds (i := 0) (by decide) (by decide)) (by decide) rfl rfl (Nat.le_of_ble_eq_true rfl) dX5_empty_23 ?_
    refine rb_iret (S := []) X (pc := 26) Y dX5_empty_26 ?_
    first
    | (by_cases z : k_fst (sT σ) (3 + 3 * q + 1) 0 < 61
       · simp only [if_pos z]
         exact pm_A hM (by rw [eK] at z; rw [r_empty, if_pos c4, eq1, if_pos z, eK])
       · simp only [if_neg z]
         exact pm_Af hM (by rw [eK] at z; rw [r_empty, if_pos c4, eq1, if_neg z, ff_3]))
    | exact pm_f hM eR
  · (try simp only [sp_b0, Classical.not_not] at c4)
    obtain ⟨q, hq, rfl⟩ := iH_of c4
    have eq1 : ix (nI q) = q := nI_clamp (by omega)
    have eK := kf_emp (T := sT σ) hq
    refine rb_aload_n X (pc := 7) dX5_empty_7 rfl rfl ?_
    refine rb_iload_n X (pc := 8) dX5_empty_8 rfl rfl ?_
    refine rb_iconst (v := 1) X (pc := 9) dX5_empty_9 (by decide) ?_
    refine rc_callSi X (pc := 10) cvX5_partOf mX5_41 (qX5_partOf (w := 1)) (by decide) rfl rfl (Nat.le_of_ble_eq_true rfl) dX5_empty_10 ?_
    refine rb_iconst (v := 0) X (pc := 13) dX5_empty_13 (by decide) ?_
    refine rc_callVi X (pc := 14) cvX5_firstAs mX5_197 rb_ob9 (qX5_firstAs hok (by omega)) (by decide) rfl rfl (Nat.le_of_ble_eq_true rfl) dX5_empty_14 ?_
    refine rb_goto X (pc := 17) (tgt := 26) dX5_empty_17 (by decide) ?_
    refine rb_iret (S := []) X (pc := 26) Y dX5_empty_26 ?_
    first
    | (by_cases z : k_fst (sT σ) (3 + 3 * q + 1) 0 < 61
       · simp only [if_pos z]
         exact pm_A hM (by rw [eK] at z; rw [r_empty, if_pos c4, eq1, if_pos z, eK])
       · simp only [if_neg z]
         exact pm_Af hM (by rw [eK] at z; rw [r_empty, if_pos c4, eq1, if_neg z, ff_3]))
    | exact pm_f hM eR
set_option maxRecDepth 100000 in
set_option maxHeartbeats 1000000 in
theorem qX5_out {G : rb_G} {σ : Sg} {h : rb_H} (hS : okS σ) (hM : MI σ h)  (r0 : Int32) : rb_M G 9 yX5_out cX5_out 2 (some .int) [.ref (rb_ad G 9 0), .int r0] (h) (PM h (r_out σ r0)) := by
  refine rb_meth (L := [.ref (rb_ad G 9 0), .int r0]) (by decide) (Nat.le_of_ble_eq_true rfl) rfl (fun Z X Y => ?_)
  have X : rb_CX Z G cX5_out 2 RX5 9 := X
  obtain ⟨h, rfl⟩ : ∃ h0, h = ms h0 (sT σ) := ⟨h, (rb_row_self hM.1).symm⟩
  have hok := hS.1
  have hn4 := hok.1
  have hn10 := hok.2.1
  refine rb_aload_n X (pc := 0) dX5_out_0 rfl rfl ?_
  refine rb_iload_n X (pc := 1) dX5_out_1 rfl rfl ?_
  refine rc_callVi X (pc := 2) cvX5_isRumour mX5_106 rb_ob9 (qX5_isRumour hn4 hn10 _) (by decide) rfl rfl (Nat.le_of_ble_eq_true rfl) dX5_out_2 ?_
  refine rb_if_eq X (pc := 5) (tgt := 21) dX5_out_5 (by decide) (fun c5 => ?_) (fun c5 => ?_)
  · (try simp only [sp_b0, Classical.not_not] at c5)
    have eR : r_out σ r0 = (-1000000001, fnd σ 0) := by simp [r_out, c5, ff_0]
    refine rb_aload_n X (pc := 21) dX5_out_21 rfl rfl ?_
    refine rb_ldc X (pc := 22) dX5_out_22 kX5_45 ?_
    refine rc_callVi X (pc := 24) cvX5_finds mX5_74 rb_ob9 (qX5_finds (i := 0) (by decide) (by decide)) (by decide) rfl rfl (Nat.le_of_ble_eq_true rfl) dX5_out_24 ?_
    refine rb_iret (S := []) X (pc := 27) Y dX5_out_27 ?_
    first
    | (by_cases z : k_fst (sT σ) (27 + 5 * r + 4) (-1) < 61
       · simp only [if_pos z]
         exact pm_A hM (by rw [eK] at z; rw [r_out, if_pos c5, er, if_pos z, eK])
       · simp only [if_neg z]
         exact pm_Af hM (by rw [eK] at z; rw [r_out, if_pos c5, er, if_neg z, ff_3]))
    | exact pm_f hM eR
  · (try simp only [sp_b0, Classical.not_not] at c5)
    obtain ⟨r, hr, rfl⟩ := iR_of hok c5
    have er : ix (nI r) = r := nI_clamp (by omega)
    have eK := kf_out (T := sT σ) (show r < 10 by omega)
    refine rb_aload_n X (pc := 8) dX5_out_8 rfl rfl ?_
    refine rb_iload_n X (pc := 9) dX5_out_9 rfl rfl ?_
    refine rb_iconst (v := 4) X (pc := 10) dX5_out_10 (by decide) ?_
    refine rc_callSi X (pc := 11) cvX5_spotOf mX5_56 (qX5_spotOf (w := 4)) (by decide) rfl rfl (Nat.le_of_ble_eq_true rfl) dX5_out_11 ?_
    refine rb_iconst (v := (-1)) X (pc := 14) dX5_out_14 (by decide) ?_
    refine rc_callVi X (pc := 15) cvX5_firstAs mX5_197 rb_ob9 (qX5_firstAs hok (by omega)) (by decide) rfl rfl (Nat.le_of_ble_eq_true rfl) dX5_out_15 ?_
    refine rb_goto X (pc := 18) (tgt := 27) dX5_out_18 (by decide) ?_
    refine rb_iret (S := []) X (pc := 27) Y dX5_out_27 ?_
    first
    | (by_cases z : k_fst (sT σ) (27 + 5 * r + 4) (-1) < 61
       · simp only [if_pos z]
         exact pm_A hM (by rw [eK] at z; rw [r_out, if_pos c5, er, if_pos z, eK])
       · simp only [if_neg z]
         exact pm_Af hM (by rw [eK] at z; rw [r_out, if_pos c5, er, if_neg z, ff_3]))
    | exact pm_f hM eR
set_option maxRecDepth 100000 in
set_option maxHeartbeats 1000000 in
theorem lpX5_fewest_43 {Z : rb_Z} {G : rb_G} {σ : Sg} {h : rb_H} (hS : okS σ) (hM : MI σ (ms h (sT σ))) {r p q : Nat} (hr : r < sp_n (sT σ)) (hp1 : p < 8) (hp : sT σ 9 r = nI p) (hq : q < 8) (cR : iR (sT σ) (nI r) = true) (cH : iH (nI q) = true) (X : rb_CX Z G cX5_fewest 5 RX5 6) (Y : rb_RT Z G (some .int) (PM (ms h (sT σ)) (r_fewest σ (nI r) (nI q)))) : ∀ fu : Nat, ∀ i : Nat, i ≤ 41 → 42 ≤ i + fu → (∀ n, n < i → decide (sp_imps (sT σ) r n 9 r = nI q) = false) → rb_WP Z G 5 43 [.ref (rb_ad G 9 0), .int (nI r), .int (nI q), .int (nI i), .null] [] (ms (mo h (sT σ)) (sp_imps (sT σ) r i)) := by
  intro fu
  induction fu with
  | zero => intro i hi hf hno; omega
  | succ fu ih =>
    intro i hi hf hno
    have hok := hS.1
    have hn10 := hok.2.1
    obtain ⟨hki, hni⟩ := sp_imps_ok hok (show r < 10 by omega) i
    obtain ⟨p2, hp21, hp2⟩ := sp_imps_pl hp1 hp i
    have er : ix (nI r) = r := nI_clamp (by omega)
    have hm1 : ¬ sT σ 9 r = -1 := by rw [hp]; exact fun z => sp_m1 (by omega) z.symm
    refine rb_iload_n X (pc := 43) dX5_fewest_43 rfl rfl ?_
    refine rb_bipush (v := 40) X (pc := 44) dX5_fewest_44 (by decide) ?_
    refine rb_icmp_gt X (pc := 46) (tgt := 71) dX5_fewest_46 (by decide) (fun c46 => ?_) (fun c46 => ?_)
    · have h1 := (nI_ltI (a := 40) (by omega) (by omega)).mp c46
      have i41 : i = 41 := by omega
      have hk : k_few (sT σ) r (nI q) = i := by rw [i41] at hno ⊢; exact fa_first_none hno
      refine rb_aload_n X (pc := 71) dX5_fewest_71 rfl rfl ?_
      refine rb_iload_n X (pc := 72) dX5_fewest_72 rfl rfl ?_
      refine rc_callVi X (pc := 73) cvX5_takesBack mX5_187 rb_ob9 (qTb mo_3) (by decide) rfl rfl (Nat.le_of_ble_eq_true rfl) dX5_fewest_73 ?_
      refine rb_istore X (pc := 76) dX5_fewest_76 (by decide) rfl rfl ?_
      refine rb_iload X (pc := 78) dX5_fewest_78 rfl ?_
      refine rb_bipush (v := 40) X (pc := 80) dX5_fewest_80 (by decide) ?_
      refine rb_icmp_le X (pc := 82) (tgt := 94) dX5_fewest_82 (by decide) (fun c82 => ?_) (fun c82 => ?_)
      · have h2 : i ≤ 40 := (nI_leI (b := 40) (by omega) (by omega)).mp c82
        have eR : r_fewest σ (nI r) (nI q) = (nI i, σ) := by simp [r_fewest, cR, cH, er, hk, hm1, show i < 41 by omega]
        refine rb_iload X (pc := 94) dX5_fewest_94 rfl ?_
        refine rb_iret (S := []) X (pc := 96) Y dX5_fewest_96 ?_
        first
        | exact pm_A hM eR
        | exact pm_Af hM eR
      · have h2 : ¬ i ≤ 40 := fun z => c82 ((nI_leI (b := 40) (by omega) (by omega)).mpr z)
        have eR : r_fewest σ (nI r) (nI q) = (-1000000004, fnd σ 3) := by simp [r_fewest, cR, cH, er, hk, hm1, ff_3, show ¬ i < 41 by omega]
        refine rb_aload_n X (pc := 85) dX5_fewest_85 rfl rfl ?_
        refine rb_ldc X (pc := 86) dX5_fewest_86 kX5_196 ?_
        refine rc_callVi X (pc := 88) cvX5_finds mX5_74 rb_ob9 (qX5_finds (i := 3) (by decide) (by decide)) (by decide) rfl rfl (Nat.le_of_ble_eq_true rfl) dX5_fewest_88 ?_
        refine rb_goto X (pc := 91) (tgt := 96) dX5_fewest_91 (by decide) ?_
        refine rb_iret (S := []) X (pc := 96) Y dX5_fewest_96 ?_
        first
        | exact pm_A hM eR
        | exact pm_Af hM eR
    · have h1 : ¬ 40 < i := fun z => c46 ((nI_ltI (a := 40) (by omega) (by omega)).mpr z)
      refine rb_aload_n X (pc := 49) dX5_fewest_49 rfl rfl ?_
      refine rb_iload_n X (pc := 50) dX5_fewest_50 rfl rfl ?_
      refine rb_iconst (v := 4) X (pc := 51) dX5_fewest_51 (by decide) ?_
      refine rc_callVi X (pc := 52) cvX5_its mX5_78 rb_ob9 (qI4 (by omega)) (by decide) rfl rfl (Nat.le_of_ble_eq_true rfl) dX5_fewest_52 ?_
      refine rb_iload_n X (pc := 55) dX5_fewest_55 rfl rfl ?_
      refine rb_icmp_eq X (pc := 56) (tgt := 71) dX5_fewest_56 (by decide) (fun c56 => ?_) (fun c56 => ?_)
      · have hk : k_few (sT σ) r (nI q) = i := fa_first_eq (by omega) (decide_eq_true c56) hno
        refine rb_aload_n X (pc := 71) dX5_fewest_71 rfl rfl ?_
        refine rb_iload_n X (pc := 72) dX5_fewest_72 rfl rfl ?_
        refine rc_callVi X (pc := 73) cvX5_takesBack mX5_187 rb_ob9 (qTb mo_3) (by decide) rfl rfl (Nat.le_of_ble_eq_true rfl) dX5_fewest_73 ?_
        refine rb_istore X (pc := 76) dX5_fewest_76 (by decide) rfl rfl ?_
        refine rb_iload X (pc := 78) dX5_fewest_78 rfl ?_
        refine rb_bipush (v := 40) X (pc := 80) dX5_fewest_80 (by decide) ?_
        refine rb_icmp_le X (pc := 82) (tgt := 94) dX5_fewest_82 (by decide) (fun c82 => ?_) (fun c82 => ?_)
        · have h2 : i ≤ 40 := (nI_leI (b := 40) (by omega) (by omega)).mp c82
          have eR : r_fewest σ (nI r) (nI q) = (nI i, σ) := by simp [r_fewest, cR, cH, er, hk, hm1, show i < 41 by omega]
          refine rb_iload X (pc := 94) dX5_fewest_94 rfl ?_
          refine rb_iret (S := []) X (pc := 96) Y dX5_fewest_96 ?_
          first
          | exact pm_A hM eR
          | exact pm_Af hM eR
        · have h2 : ¬ i ≤ 40 := fun z => c82 ((nI_leI (b := 40) (by omega) (by omega)).mpr z)
          have eR : r_fewest σ (nI r) (nI q) = (-1000000004, fnd σ 3) := by simp [r_fewest, cR, cH, er, hk, hm1, ff_3, show ¬ i < 41 by omega]
          refine rb_aload_n X (pc := 85) dX5_fewest_85 rfl rfl ?_
          refine rb_ldc X (pc := 86) dX5_fewest_86 kX5_196 ?_
          refine rc_callVi X (pc := 88) cvX5_finds mX5_74 rb_ob9 (qX5_finds (i := 3) (by decide) (by decide)) (by decide) rfl rfl (Nat.le_of_ble_eq_true rfl) dX5_fewest_88 ?_
          refine rb_goto X (pc := 91) (tgt := 96) dX5_fewest_91 (by decide) ?_
          refine rb_iret (S := []) X (pc := 96) Y dX5_fewest_96 ?_
          first
          | exact pm_A hM eR
          | exact pm_Af hM eR
      · refine rb_aload_n X (pc := 59) dX5_fewest_59 rfl rfl ?_
        refine rb_iload_n X (pc := 60) dX5_fewest_60 rfl rfl ?_
        refine rb_iconst (v := 1) X (pc := 61) dX5_fewest_61 (by decide) ?_
        refine rc_callVv X (pc := 62) cvX5_isImproved mX5_143 rb_ob9 (qX5_isImproved (T := sp_imps (sT σ) r i) hki.1 hki.2.1 (by omega) hp21 hp2) (by decide) rfl rfl (Nat.le_of_ble_eq_true rfl) dX5_fewest_62 ?_
        refine rb_iinc X (pc := 65) dX5_fewest_65 rfl (sp_inc _) (by decide) rfl rfl ?_
        refine rb_goto X (pc := 68) (tgt := 43) dX5_fewest_68 (by decide) ?_
        exact sp_go rfl (by rw [sp_imps_s]) (ih (i + 1) (by omega) (by omega) (fun n hn => by
          by_cases e : n = i
          · subst e; exact decide_eq_false c56
          · exact hno n (by omega)))
set_option maxRecDepth 100000 in
set_option maxHeartbeats 1000000 in
theorem qX5_fewest {G : rb_G} {σ : Sg} {h : rb_H} (hS : okS σ) (hM : MI σ h)  (a b : Int32) : rb_M G 6 yX5_fewest cX5_fewest 5 (some .int) [.ref (rb_ad G 9 0), .int a, .int b] (h) (PM h (r_fewest σ a b)) := by
  refine rb_meth (L := [.ref (rb_ad G 9 0), .int a, .int b, .null, .null]) (by decide) (Nat.le_of_ble_eq_true rfl) rfl (fun Z X Y => ?_)
  have X : rb_CX Z G cX5_fewest 5 RX5 6 := X
  obtain ⟨h, rfl⟩ : ∃ h0, h = ms h0 (sT σ) := ⟨h, (rb_row_self hM.1).symm⟩
  have hok := hS.1
  have hn4 := hok.1
  have hn10 := hok.2.1
  refine rb_aload_n X (pc := 0) dX5_fewest_0 rfl rfl ?_
  refine rb_iload_n X (pc := 1) dX5_fewest_1 rfl rfl ?_
  refine rc_callVi X (pc := 2) cvX5_isRumour mX5_106 rb_ob9 (qX5_isRumour hn4 hn10 _) (by decide) rfl rfl (Nat.le_of_ble_eq_true rfl) dX5_fewest_2 ?_
  refine rb_if_eq X (pc := 5) (tgt := 15) dX5_fewest_5 (by decide) (fun c5 => ?_) (fun c5 => ?_)
  · (try simp only [sp_b0, Classical.not_not] at c5)
    have eR : r_fewest σ a b = (-1000000001, fnd σ 0) := by simp [r_fewest, c5, ff_0]
    refine rb_aload_n X (pc := 15) dX5_fewest_15 rfl rfl ?_
    refine rb_ldc X (pc := 16) dX5_fewest_16 kX5_45 ?_
    refine rc_callVi X (pc := 18) cvX5_finds mX5_74 rb_ob9 (qX5_finds (i := 0) (by decide) (by decide)) (by decide) rfl rfl (Nat.le_of_ble_eq_true rfl) dX5_fewest_18 ?_
    refine rb_iret (S := []) X (pc := 21) Y dX5_fewest_21 ?_
    exact pm_f hM eR
  · (try simp only [sp_b0, Classical.not_not] at c5)
    refine rb_iload_n X (pc := 8) dX5_fewest_8 rfl rfl ?_
    refine rc_callSi X (pc := 9) cvX5_isHouse mX5_67 (qX5_isHouse _) (by decide) rfl rfl (Nat.le_of_ble_eq_true rfl) dX5_fewest_9 ?_
    refine rb_if_ne X (pc := 12) (tgt := 22) dX5_fewest_12 (by decide) (fun c12 => ?_) (fun c12 => ?_)
    · (try simp only [sp_b0, Classical.not_not] at c12)
      obtain ⟨r, hr, rfl⟩ := iR_of hok c5
      have er : ix (nI r) = r := nI_clamp (by omega)
      obtain ⟨q, hq, rfl⟩ := iH_of c12
      refine rb_aload_n X (pc := 22) dX5_fewest_22 rfl rfl ?_
      refine rb_iload_n X (pc := 23) dX5_fewest_23 rfl rfl ?_
      refine rc_callVi X (pc := 24) cvX5_wrongLodger mX5_200 rb_ob9 (qX5_wrongLodger (by omega)) (by decide) rfl rfl (Nat.le_of_ble_eq_true rfl) dX5_fewest_24 ?_
      refine rb_if_eq X (pc := 27) (tgt := 37) dX5_fewest_27 (by decide) (fun c27 => ?_) (fun c27 => ?_)
      · have c27b : ¬ sT σ 9 r = -1 := fun z => by rw [if_pos z] at c27; exact absurd c27 (by decide)
        obtain ⟨p, hp1, hp⟩ := sp_pl_ne (hok.2.2.1 r (by omega)).2.2.2.2 c27b
        refine rb_aload_n X (pc := 37) dX5_fewest_37 rfl rfl ?_
        refine rc_callVv X (pc := 38) cvX5_laysAside mX5_184 rb_ob9 qLa (by decide) rfl rfl (Nat.le_of_ble_eq_true rfl) dX5_fewest_38 ?_
        refine rb_iconst (v := 0) X (pc := 41) dX5_fewest_41 (by decide) ?_
        refine rb_istore_n X (pc := 42) dX5_fewest_42 rfl (by decide) rfl rfl ?_
        exact sp_go rfl (by rw [sp_imps_0]) (lpX5_fewest_43 hS hM hr hp1 hp hq c5 c12 X Y 42 0 (by omega) (by omega) (fun n hn => absurd hn (by omega)))
      · have c27 : sT σ 9 r = -1 := by
          rcases Classical.em (sT σ 9 r = -1) with z | z
          · exact z
          · exact absurd (if_neg z) c27
        refine rb_aload_n X (pc := 30) dX5_fewest_30 rfl rfl ?_
        refine rb_ldc X (pc := 31) dX5_fewest_31 kX5_134 ?_
        refine rc_callVi X (pc := 33) cvX5_finds mX5_74 rb_ob9 (qX5_finds (i := 4) (by decide) (by decide)) (by decide) rfl rfl (Nat.le_of_ble_eq_true rfl) dX5_fewest_33 ?_
        refine rb_iret (S := []) X (pc := 36) Y dX5_fewest_36 ?_
        exact pm_f hM (by simp [r_fewest, c5, c12, er, ff_4, c27])
    · (try simp only [sp_b0, Classical.not_not] at c12)
      have eR : r_fewest σ a b = (-1000000001, fnd σ 0) := by simp [r_fewest, c5, c12, ff_0]
      refine rb_aload_n X (pc := 15) dX5_fewest_15 rfl rfl ?_
      refine rb_ldc X (pc := 16) dX5_fewest_16 kX5_45 ?_
      refine rc_callVi X (pc := 18) cvX5_finds mX5_74 rb_ob9 (qX5_finds (i := 0) (by decide) (by decide)) (by decide) rfl rfl (Nat.le_of_ble_eq_true rfl) dX5_fewest_18 ?_
      refine rb_iret (S := []) X (pc := 21) Y dX5_fewest_21 ?_
      exact pm_f hM eR
set_option maxRecDepth 100000 in
set_option maxHeartbeats 1000000 in
theorem lpX5_least_46 {Z : rb_Z} {G : rb_G} {σ : Sg} {h : rb_H} (hS : okS σ) (hM : MI σ (ms h (sT σ))) {r p : Nat} (hr : r < sp_n (sT σ)) (hp1 : p < 8) (hp : sT σ 9 r = nI p) (cR : iR (sT σ) (nI r) = true) (X : rb_CX Z G cX5_least 5 RX5 6) (Y : rb_RT Z G (some .int) (PM (ms h (sT σ)) (r_least σ (nI r)))) : ∀ fu : Nat, ∀ (i : Nat) (fo : Int32), i ≤ 20 → 21 ≤ i + fu → ((fo = -1 ∧ ∀ n, n < i → decide (¬ sp_imp (sT σ) r (nI (n + 1)) 9 r = sT σ 9 r) = false) ∨ (k_least (sT σ) r < 20 ∧ fo = nI (k_least (sT σ) r + 1))) → rb_WP Z G 5 46 [.ref (rb_ad G 9 0), .int (nI r), .int (sT σ 9 r), .int fo, .int (nI (i + 1))] [] (ms (mo h (sT σ)) (sT σ)) := by
  intro fu
  induction fu with
  | zero => intro i fo hi hf hno; omega
  | succ fu ih =>
    intro i fo hi hf hno
    have hok := hS.1
    have hn4 := hok.1
    have hn10 := hok.2.1
    have er : ix (nI r) = r := nI_clamp (by omega)
    have hm1 : ¬ sT σ 9 r = -1 := by rw [hp]; exact fun z => sp_m1 (by omega) z.symm
    refine rb_iload X (pc := 46) dX5_least_46 rfl ?_
    refine rb_bipush (v := 20) X (pc := 48) dX5_least_48 (by decide) ?_
    refine rb_icmp_gt X (pc := 50) (tgt := 91) dX5_least_50 (by decide) (fun c50 => ?_) (fun c50 => ?_)
    · have h1 := (nI_ltI (a := 20) (b := i + 1) (by omega) (by omega)).mp c50
      obtain rfl : i = 20 := by omega
      have eR : (fo = -1 ∧ k_least (sT σ) r = 20) ∨ (k_least (sT σ) r < 20 ∧ fo = nI (k_least (sT σ) r + 1)) := hno.imp (fun z => ⟨z.1, fa_first_none z.2⟩) (fun z => z)
      refine rb_iload_n X (pc := 91) dX5_least_91 rfl rfl ?_
      refine rb_if_ge X (pc := 92) (tgt := 104) dX5_least_92 (by decide) (fun c92 => ?_) (fun c92 => ?_)
      · have e2 := eR.resolve_left (fun z => by rw [z.1] at c92; exact absurd c92 (by decide))
        have eR : r_least σ (nI r) = (fo, σ) := by simp [r_least, cR, er, hm1, e2.1, e2.2]
        refine rb_iload_n X (pc := 104) dX5_least_104 rfl rfl ?_
        refine rb_iret (S := []) X (pc := 105) Y dX5_least_105 ?_
        first
        | exact pm_A hM eR
        | exact pm_Af hM eR
      · have e2 := eR.resolve_right (fun z => by rw [z.2] at c92; exact c92 (nI_pos' (by omega)))
        have eR : r_least σ (nI r) = (-1000000004, fnd σ 3) := by simp [r_least, cR, er, hm1, e2.2, ff_3]
        refine rb_aload_n X (pc := 95) dX5_least_95 rfl rfl ?_
        refine rb_ldc X (pc := 96) dX5_least_96 kX5_196 ?_
        refine rc_callVi X (pc := 98) cvX5_finds mX5_74 rb_ob9 (qX5_finds (i := 3) (by decide) (by decide)) (by decide) rfl rfl (Nat.le_of_ble_eq_true rfl) dX5_least_98 ?_
        refine rb_goto X (pc := 101) (tgt := 105) dX5_least_101 (by decide) ?_
        refine rb_iret (S := []) X (pc := 105) Y dX5_least_105 ?_
        first
        | exact pm_A hM eR
        | exact pm_Af hM eR
    · have h1 : ¬ 20 < i + 1 := fun z => c50 ((nI_ltI (a := 20) (b := i + 1) (by omega) (by omega)).mpr z)
      refine rb_iload_n X (pc := 53) dX5_least_53 rfl rfl ?_
      refine rb_if_ge X (pc := 54) (tgt := 91) dX5_least_54 (by decide) (fun c54 => ?_) (fun c54 => ?_)
      · have eR : (fo = -1 ∧ k_least (sT σ) r = 20) ∨ (k_least (sT σ) r < 20 ∧ fo = nI (k_least (sT σ) r + 1)) := Or.inr (hno.resolve_left (fun z => by rw [z.1] at c54; exact absurd c54 (by decide)))
        refine rb_iload_n X (pc := 91) dX5_least_91 rfl rfl ?_
        refine rb_if_ge X (pc := 92) (tgt := 104) dX5_least_92 (by decide) (fun c92 => ?_) (fun c92 => ?_)
        · have e2 := eR.resolve_left (fun z => by rw [z.1] at c92; exact absurd c92 (by decide))
          have eR : r_least σ (nI r) = (fo, σ) := by simp [r_least, cR, er, hm1, e2.1, e2.2]
          refine rb_iload_n X (pc := 104) dX5_least_104 rfl rfl ?_
          refine rb_iret (S := []) X (pc := 105) Y dX5_least_105 ?_
          first
          | exact pm_A hM eR
          | exact pm_Af hM eR
        · have e2 := eR.resolve_right (fun z => by rw [z.2] at c92; exact c92 (nI_pos' (by omega)))
          have eR : r_least σ (nI r) = (-1000000004, fnd σ 3) := by simp [r_least, cR, er, hm1, e2.2, ff_3]
          refine rb_aload_n X (pc := 95) dX5_least_95 rfl rfl ?_
          refine rb_ldc X (pc := 96) dX5_least_96 kX5_196 ?_
          refine rc_callVi X (pc := 98) cvX5_finds mX5_74 rb_ob9 (qX5_finds (i := 3) (by decide) (by decide)) (by decide) rfl rfl (Nat.le_of_ble_eq_true rfl) dX5_least_98 ?_
          refine rb_goto X (pc := 101) (tgt := 105) dX5_least_101 (by decide) ?_
          refine rb_iret (S := []) X (pc := 105) Y dX5_least_105 ?_
          first
          | exact pm_A hM eR
          | exact pm_Af hM eR
      · have hn2 : fo = -1 ∧ ∀ n, n < i → decide (¬ sp_imp (sT σ) r (nI (n + 1)) 9 r = sT σ 9 r) = false := hno.resolve_right (fun z => by rw [z.2] at c54; exact c54 (nI_pos' (by omega)))
        refine rb_aload_n X (pc := 57) dX5_least_57 rfl rfl ?_
        refine rb_iload_n X (pc := 58) dX5_least_58 rfl rfl ?_
        refine rb_iload X (pc := 59) dX5_least_59 rfl ?_
        refine rc_callVv X (pc := 61) cvX5_isImproved mX5_143 rb_ob9 (qX5_isImproved (T := sT σ) hn4 hn10 (by omega) hp1 hp) (by decide) rfl rfl (Nat.le_of_ble_eq_true rfl) dX5_least_61 ?_
        refine rb_aload_n X (pc := 64) dX5_least_64 rfl rfl ?_
        refine rb_aload_n X (pc := 65) dX5_least_65 rfl rfl ?_
        refine rb_iload_n X (pc := 66) dX5_least_66 rfl rfl ?_
        refine rb_iconst (v := 4) X (pc := 67) dX5_least_67 (by decide) ?_
        refine rc_callVi X (pc := 68) cvX5_its mX5_78 rb_ob9 (qI4 (by omega)) (by decide) rfl rfl (Nat.le_of_ble_eq_true rfl) dX5_least_68 ?_
        refine rb_iload_n X (pc := 71) dX5_least_71 rfl rfl ?_
        refine rb_icmp_eq X (pc := 72) (tgt := 80) dX5_least_72 (by decide) (fun c72 => ?_) (fun c72 => ?_)
        · refine rb_iconst (v := (-1)) X (pc := 80) dX5_least_80 (by decide) ?_
          refine rc_callVi X (pc := 81) cvX5_takesBack mX5_187 rb_ob9 (qTb mo_3) (by decide) rfl rfl (Nat.le_of_ble_eq_true rfl) dX5_least_81 ?_
          refine rb_istore_n X (pc := 84) dX5_least_84 rfl (by decide) rfl rfl ?_
          refine rb_iinc X (pc := 85) dX5_least_85 rfl (sp_inc _) (by decide) rfl rfl ?_
          refine rb_goto X (pc := 88) (tgt := 46) dX5_least_88 (by decide) ?_
          first
          | exact sp_go rfl rfl (ih (i + 1) (-1) (by omega) (by omega) (Or.inl ⟨rfl, fun n hn => by
              by_cases e : n = i
              · subst e; exact decide_eq_false (fun z => z c72)
              · exact hn2.2 n (by omega)⟩))
          | (have hk : k_least (sT σ) r = i := fa_first_eq (by omega) (decide_eq_true c72) hn2.2
             exact sp_go rfl rfl (ih (i + 1) (nI (i + 1)) (by omega) (by omega) (Or.inr ⟨by omega, by rw [hk]⟩)))
        · refine rb_iload X (pc := 75) dX5_least_75 rfl ?_
          refine rb_goto X (pc := 77) (tgt := 81) dX5_least_77 (by decide) ?_
          refine rc_callVi X (pc := 81) cvX5_takesBack mX5_187 rb_ob9 (qTb mo_3) (by decide) rfl rfl (Nat.le_of_ble_eq_true rfl) dX5_least_81 ?_
          refine rb_istore_n X (pc := 84) dX5_least_84 rfl (by decide) rfl rfl ?_
          refine rb_iinc X (pc := 85) dX5_least_85 rfl (sp_inc _) (by decide) rfl rfl ?_
          refine rb_goto X (pc := 88) (tgt := 46) dX5_least_88 (by decide) ?_
          first
          | exact sp_go rfl rfl (ih (i + 1) (-1) (by omega) (by omega) (Or.inl ⟨rfl, fun n hn => by
              by_cases e : n = i
              · subst e; exact decide_eq_false (fun z => z c72)
              · exact hn2.2 n (by omega)⟩))
          | (have hk : k_least (sT σ) r = i := fa_first_eq (by omega) (decide_eq_true c72) hn2.2
             exact sp_go rfl rfl (ih (i + 1) (nI (i + 1)) (by omega) (by omega) (Or.inr ⟨by omega, by rw [hk]⟩)))
set_option maxRecDepth 100000 in
set_option maxHeartbeats 1000000 in
theorem qX5_least {G : rb_G} {σ : Sg} {h : rb_H} (hS : okS σ) (hM : MI σ h)  (a : Int32) : rb_M G 6 yX5_least cX5_least 5 (some .int) [.ref (rb_ad G 9 0), .int a] (h) (PM h (r_least σ a)) := by
  refine rb_meth (L := [.ref (rb_ad G 9 0), .int a, .null, .null, .null]) (by decide) (Nat.le_of_ble_eq_true rfl) rfl (fun Z X Y => ?_)
  have X : rb_CX Z G cX5_least 5 RX5 6 := X
  obtain ⟨h, rfl⟩ : ∃ h0, h = ms h0 (sT σ) := ⟨h, (rb_row_self hM.1).symm⟩
  have hok := hS.1
  have hn4 := hok.1
  have hn10 := hok.2.1
  refine rb_aload_n X (pc := 0) dX5_least_0 rfl rfl ?_
  refine rb_iload_n X (pc := 1) dX5_least_1 rfl rfl ?_
  refine rc_callVi X (pc := 2) cvX5_isRumour mX5_106 rb_ob9 (qX5_isRumour hn4 hn10 _) (by decide) rfl rfl (Nat.le_of_ble_eq_true rfl) dX5_least_2 ?_
  refine rb_if_ne X (pc := 5) (tgt := 15) dX5_least_5 (by decide) (fun c5 => ?_) (fun c5 => ?_)
  · (try simp only [sp_b0, Classical.not_not] at c5)
    obtain ⟨r, hr, rfl⟩ := iR_of hok c5
    have er : ix (nI r) = r := nI_clamp (by omega)
    refine rb_aload_n X (pc := 15) dX5_least_15 rfl rfl ?_
    refine rb_iload_n X (pc := 16) dX5_least_16 rfl rfl ?_
    refine rc_callVi X (pc := 17) cvX5_wrongLodger mX5_200 rb_ob9 (qX5_wrongLodger (by omega)) (by decide) rfl rfl (Nat.le_of_ble_eq_true rfl) dX5_least_17 ?_
    refine rb_if_eq X (pc := 20) (tgt := 30) dX5_least_20 (by decide) (fun c20 => ?_) (fun c20 => ?_)
    · have c20b : ¬ sT σ 9 r = -1 := fun z => by rw [if_pos z] at c20; exact absurd c20 (by decide)
      obtain ⟨p, hp1, hp⟩ := sp_pl_ne (hok.2.2.1 r (by omega)).2.2.2.2 c20b
      refine rb_aload_n X (pc := 30) dX5_least_30 rfl rfl ?_
      refine rb_iload_n X (pc := 31) dX5_least_31 rfl rfl ?_
      refine rb_iconst (v := 4) X (pc := 32) dX5_least_32 (by decide) ?_
      refine rc_callVi X (pc := 33) cvX5_its mX5_78 rb_ob9 (qI4 (by omega)) (by decide) rfl rfl (Nat.le_of_ble_eq_true rfl) dX5_least_33 ?_
      refine rb_istore_n X (pc := 36) dX5_least_36 rfl (by decide) rfl rfl ?_
      refine rb_aload_n X (pc := 37) dX5_least_37 rfl rfl ?_
      refine rc_callVv X (pc := 38) cvX5_laysAside mX5_184 rb_ob9 qLa (by decide) rfl rfl (Nat.le_of_ble_eq_true rfl) dX5_least_38 ?_
      refine rb_iconst (v := (-1)) X (pc := 41) dX5_least_41 (by decide) ?_
      refine rb_istore_n X (pc := 42) dX5_least_42 rfl (by decide) rfl rfl ?_
      refine rb_iconst (v := 1) X (pc := 43) dX5_least_43 (by decide) ?_
      refine rb_istore X (pc := 44) dX5_least_44 (by decide) rfl rfl ?_
      exact sp_go rfl rfl (lpX5_least_46 hS hM hr hp1 hp c5 X Y 21 0 (-1) (by omega) (by omega) (Or.inl ⟨rfl, fun n hn => absurd hn (by omega)⟩))
    · have c20 : sT σ 9 r = -1 := by
        rcases Classical.em (sT σ 9 r = -1) with z | z
        · exact z
        · exact absurd (if_neg z) c20
      refine rb_aload_n X (pc := 23) dX5_least_23 rfl rfl ?_
      refine rb_ldc X (pc := 24) dX5_least_24 kX5_134 ?_
      refine rc_callVi X (pc := 26) cvX5_finds mX5_74 rb_ob9 (qX5_finds (i := 4) (by decide) (by decide)) (by decide) rfl rfl (Nat.le_of_ble_eq_true rfl) dX5_least_26 ?_
      refine rb_iret (S := []) X (pc := 29) Y dX5_least_29 ?_
      exact pm_f hM (by simp [r_least, c5, er, ff_4, c20])
  · (try simp only [sp_b0, Classical.not_not] at c5)
    refine rb_aload_n X (pc := 8) dX5_least_8 rfl rfl ?_
    refine rb_ldc X (pc := 9) dX5_least_9 kX5_45 ?_
    refine rc_callVi X (pc := 11) cvX5_finds mX5_74 rb_ob9 (qX5_finds (i := 0) (by decide) (by decide)) (by decide) rfl rfl (Nat.le_of_ble_eq_true rfl) dX5_least_11 ?_
    refine rb_iret (S := []) X (pc := 14) Y dX5_least_14 ?_
    exact pm_f hM (by simp [r_least, ff_0, c5])
set_option maxRecDepth 100000 in
set_option maxHeartbeats 1000000 in
theorem lpX5_best_25 {Z : rb_Z} {G : rb_G} {σ : Sg} {h : rb_H} (hS : okS σ) (hM : MI σ (ms h (sT σ))) {n : Nat} (hn : n ≤ 20) (cN : iN (nI n) 20 = true) (X : rb_CX Z G cX5_best 7 RX5 8) (Y : rb_RT Z G (some .int) (PM (ms h (sT σ)) (r_best σ (nI n)))) : ∀ fu : Nat, ∀ (i : Nat), i ≤ 16 → 17 ≤ i + fu → rb_WP Z G 7 25 [.ref (rb_ad G 9 0), .int (nI n), .int (k_arg (fun e => sp_sum (sp_days (sp_bt (sT σ) (nI e)) n 1) 8) i).1, .int (k_arg (fun e => sp_sum (sp_days (sp_bt (sT σ) (nI e)) n 1) 8) i).2, .int (nI i), .null, .null] [] (ms (mo h (sT σ)) (sT σ)) := by
  intro fu
  induction fu with
  | zero => intro i hi hf; omega
  | succ fu ih =>
    intro i hi hf
    have hok := hS.1
    have hn4 := hok.1
    have hn10 := hok.2.1
    refine rb_iload X (pc := 25) dX5_best_25 rfl ?_
    refine rb_bipush (v := 16) X (pc := 27) dX5_best_27 (by decide) ?_
    refine rb_icmp_ge X (pc := 29) (tgt := 87) dX5_best_29 (by decide) (fun c29 => ?_) (fun c29 => ?_)
    · have hi2 := (sp_geI (n := 16) rfl (by omega) (by omega)).mp c29
      obtain rfl : i = 16 := by omega
      refine rb_iload_n X (pc := 87) dX5_best_87 rfl rfl ?_
      refine rb_iret (S := []) X (pc := 88) Y dX5_best_88 ?_
      exact pm_A hM (by have en : ix (nI n) = n := nI_clamp (by omega); simp [r_best, cN, en])
    · have hi2 : i < 16 := Nat.lt_of_not_le (fun z => c29 ((sp_geI (n := 16) rfl (by omega) (by omega)).mpr z))
      refine rb_aload_n X (pc := 32) dX5_best_32 rfl rfl ?_
      refine rb_iload X (pc := 33) dX5_best_33 rfl ?_
      refine rc_callVi X (pc := 35) cvX5_becomesTrue mX5_147 rb_ob9 (qX5_becomesTrue hn4 hn10 _) (by decide) rfl rfl (Nat.le_of_ble_eq_true rfl) dX5_best_35 ?_
      refine rb_istore X (pc := 38) dX5_best_38 (by decide) rfl rfl ?_
      refine rb_aload_n X (pc := 40) dX5_best_40 rfl rfl ?_
      refine rb_iload_n X (pc := 41) dX5_best_41 rfl rfl ?_
      refine rc_callVv X (pc := 42) cvX5_daysGo mX5_168 rb_ob9 (qX5_daysGo (sp_bt_ok hok) (by omega)) (by decide) rfl rfl (Nat.le_of_ble_eq_true rfl) dX5_best_42 ?_
      refine rb_aload_n X (pc := 45) dX5_best_45 rfl rfl ?_
      refine rb_aload_n X (pc := 46) dX5_best_46 rfl rfl ?_
      refine rc_callVi X (pc := 47) cvX5_larders mX5_175 rb_ob9 qX5_larders (by decide) rfl rfl (Nat.le_of_ble_eq_true rfl) dX5_best_47 ?_
      refine rc_callVi X (pc := 50) cvX5_takesBack mX5_187 rb_ob9 (qTb mo_3) (by decide) rfl rfl (Nat.le_of_ble_eq_true rfl) dX5_best_50 ?_
      refine rb_istore X (pc := 53) dX5_best_53 (by decide) rfl rfl ?_
      refine rb_iload X (pc := 55) dX5_best_55 rfl ?_
      refine rb_iload_n X (pc := 57) dX5_best_57 rfl rfl ?_
      refine rb_icmp_le X (pc := 58) (tgt := 66) dX5_best_58 (by decide) (fun c58 => ?_) (fun c58 => ?_)
      · refine rb_iload_n X (pc := 66) dX5_best_66 rfl rfl ?_
        refine rb_istore_n X (pc := 67) dX5_best_67 rfl (by decide) rfl rfl ?_
        refine rb_iload X (pc := 68) dX5_best_68 rfl ?_
        refine rb_iload_n X (pc := 70) dX5_best_70 rfl rfl ?_
        refine rb_icmp_le X (pc := 71) (tgt := 79) dX5_best_71 (by decide) (fun c71 => ?_) (fun c71 => ?_)
        · refine rb_iload_n X (pc := 79) dX5_best_79 rfl rfl ?_
          refine rb_istore_n X (pc := 80) dX5_best_80 rfl (by decide) rfl rfl ?_
          refine rb_iinc X (pc := 81) dX5_best_81 rfl (sp_inc _) (by decide) rfl rfl ?_
          refine rb_goto X (pc := 84) (tgt := 25) dX5_best_84 (by decide) ?_
          first
          | exact absurd c58 c71
          | exact absurd c71 c58
          | exact sp_drop 5 (sp_drop 6 (sp_go (by rw [k_arg_s, if_neg (Int32.not_lt.mpr c58)]; rfl) rfl (ih (i + 1) (by omega) (by omega))))
          | exact sp_drop 5 (sp_drop 6 (sp_go (by rw [k_arg_s, if_pos (Int32.not_le.mp c58)]; rfl) rfl (ih (i + 1) (by omega) (by omega))))
        · refine rb_iload X (pc := 74) dX5_best_74 rfl ?_
          refine rb_goto X (pc := 76) (tgt := 80) dX5_best_76 (by decide) ?_
          refine rb_istore_n X (pc := 80) dX5_best_80 rfl (by decide) rfl rfl ?_
          refine rb_iinc X (pc := 81) dX5_best_81 rfl (sp_inc _) (by decide) rfl rfl ?_
          refine rb_goto X (pc := 84) (tgt := 25) dX5_best_84 (by decide) ?_
          first
          | exact absurd c58 c71
          | exact absurd c71 c58
          | exact sp_drop 5 (sp_drop 6 (sp_go (by rw [k_arg_s, if_neg (Int32.not_lt.mpr c58)]; rfl) rfl (ih (i + 1) (by omega) (by omega))))
          | exact sp_drop 5 (sp_drop 6 (sp_go (by rw [k_arg_s, if_pos (Int32.not_le.mp c58)]; rfl) rfl (ih (i + 1) (by omega) (by omega))))
      · refine rb_iload X (pc := 61) dX5_best_61 rfl ?_
        refine rb_goto X (pc := 63) (tgt := 67) dX5_best_63 (by decide) ?_
        refine rb_istore_n X (pc := 67) dX5_best_67 rfl (by decide) rfl rfl ?_
        refine rb_iload X (pc := 68) dX5_best_68 rfl ?_
        refine rb_iload_n X (pc := 70) dX5_best_70 rfl rfl ?_
        refine rb_icmp_le X (pc := 71) (tgt := 79) dX5_best_71 (by decide) (fun c71 => ?_) (fun c71 => ?_)
        · refine rb_iload_n X (pc := 79) dX5_best_79 rfl rfl ?_
          refine rb_istore_n X (pc := 80) dX5_best_80 rfl (by decide) rfl rfl ?_
          refine rb_iinc X (pc := 81) dX5_best_81 rfl (sp_inc _) (by decide) rfl rfl ?_
          refine rb_goto X (pc := 84) (tgt := 25) dX5_best_84 (by decide) ?_
          first
          | exact absurd c58 c71
          | exact absurd c71 c58
          | exact sp_drop 5 (sp_drop 6 (sp_go (by rw [k_arg_s, if_neg (Int32.not_lt.mpr c58)]; rfl) rfl (ih (i + 1) (by omega) (by omega))))
          | exact sp_drop 5 (sp_drop 6 (sp_go (by rw [k_arg_s, if_pos (Int32.not_le.mp c58)]; rfl) rfl (ih (i + 1) (by omega) (by omega))))
        · refine rb_iload X (pc := 74) dX5_best_74 rfl ?_
          refine rb_goto X (pc := 76) (tgt := 80) dX5_best_76 (by decide) ?_
          refine rb_istore_n X (pc := 80) dX5_best_80 rfl (by decide) rfl rfl ?_
          refine rb_iinc X (pc := 81) dX5_best_81 rfl (sp_inc _) (by decide) rfl rfl ?_
          refine rb_goto X (pc := 84) (tgt := 25) dX5_best_84 (by decide) ?_
          first
          | exact absurd c58 c71
          | exact absurd c71 c58
          | exact sp_drop 5 (sp_drop 6 (sp_go (by rw [k_arg_s, if_neg (Int32.not_lt.mpr c58)]; rfl) rfl (ih (i + 1) (by omega) (by omega))))
          | exact sp_drop 5 (sp_drop 6 (sp_go (by rw [k_arg_s, if_pos (Int32.not_le.mp c58)]; rfl) rfl (ih (i + 1) (by omega) (by omega))))
set_option maxRecDepth 100000 in
set_option maxHeartbeats 1000000 in
theorem qX5_best {G : rb_G} {σ : Sg} {h : rb_H} (hS : okS σ) (hM : MI σ h)  (n0 : Int32) : rb_M G 8 yX5_best cX5_best 7 (some .int) [.ref (rb_ad G 9 0), .int n0] (h) (PM h (r_best σ n0)) := by
  refine rb_meth (L := [.ref (rb_ad G 9 0), .int n0, .null, .null, .null, .null, .null]) (by decide) (Nat.le_of_ble_eq_true rfl) rfl (fun Z X Y => ?_)
  have X : rb_CX Z G cX5_best 7 RX5 8 := X
  obtain ⟨h, rfl⟩ : ∃ h0, h = ms h0 (sT σ) := ⟨h, (rb_row_self hM.1).symm⟩
  have hok := hS.1
  have hn4 := hok.1
  have hn10 := hok.2.1
  refine rb_iload_n X (pc := 0) dX5_best_0 rfl rfl ?_
  refine rc_callSi X (pc := 1) cvX5_isSoon mX5_203 (qX5_isSoon _) (by decide) rfl rfl (Nat.le_of_ble_eq_true rfl) dX5_best_1 ?_
  refine rb_if_ne X (pc := 4) (tgt := 14) dX5_best_4 (by decide) (fun c4 => ?_) (fun c4 => ?_)
  · (try simp only [sp_b0, Classical.not_not] at c4)
    obtain ⟨n, hn1, rfl⟩ := iN_of (n := 20) (by decide) c4
    refine rb_iconst (v := 0) X (pc := 14) dX5_best_14 (by decide) ?_
    refine rb_istore_n X (pc := 15) dX5_best_15 rfl (by decide) rfl rfl ?_
    refine rb_iconst (v := (-1)) X (pc := 16) dX5_best_16 (by decide) ?_
    refine rb_istore_n X (pc := 17) dX5_best_17 rfl (by decide) rfl rfl ?_
    refine rb_aload_n X (pc := 18) dX5_best_18 rfl rfl ?_
    refine rc_callVv X (pc := 19) cvX5_laysAside mX5_184 rb_ob9 qLa (by decide) rfl rfl (Nat.le_of_ble_eq_true rfl) dX5_best_19 ?_
    refine rb_iconst (v := 0) X (pc := 22) dX5_best_22 (by decide) ?_
    refine rb_istore X (pc := 23) dX5_best_23 (by decide) rfl rfl ?_
    exact sp_go (by rw [k_arg_0]; rfl) rfl (lpX5_best_25 hS hM hn1 c4 X Y 17 0 (by omega) (by omega))
  · (try simp only [sp_b0, Classical.not_not] at c4)
    refine rb_aload_n X (pc := 7) dX5_best_7 rfl rfl ?_
    refine rb_ldc X (pc := 8) dX5_best_8 kX5_45 ?_
    refine rc_callVi X (pc := 10) cvX5_finds mX5_74 rb_ob9 (qX5_finds (i := 0) (by decide) (by decide)) (by decide) rfl rfl (Nat.le_of_ble_eq_true rfl) dX5_best_10 ?_
    refine rb_iret (S := []) X (pc := 13) Y dX5_best_13 ?_
    exact pm_f hM (by simp [r_best, ff_0, *]; done)
set_option maxRecDepth 100000 in
set_option maxHeartbeats 1000000 in
theorem qX5_lean {G : rb_G} {σ : Sg} {h : rb_H} (hS : okS σ) (hM : MI σ h)  (a r0 : Int32) : rb_M G 4 yX5_lean cX5_lean 3 (some .int) [.ref (rb_ad G 9 0), .int a, .int r0] (h) (PM h (r_lean σ a r0)) := by
  refine rb_meth (L := [.ref (rb_ad G 9 0), .int a, .int r0]) (by decide) (Nat.le_of_ble_eq_true rfl) rfl (fun Z X Y => ?_)
  have X : rb_CX Z G cX5_lean 3 RX5 4 := X
  obtain ⟨h, rfl⟩ : ∃ h0, h = ms h0 (sT σ) := ⟨h, (rb_row_self hM.1).symm⟩
  have hok := hS.1
  have hn4 := hok.1
  have hn10 := hok.2.1
  refine rb_iload_n X (pc := 0) dX5_lean_0 rfl rfl ?_
  refine rc_callSi X (pc := 1) cvX5_isHouse mX5_67 (qX5_isHouse _) (by decide) rfl rfl (Nat.le_of_ble_eq_true rfl) dX5_lean_1 ?_
  refine rb_if_eq X (pc := 4) (tgt := 15) dX5_lean_4 (by decide) (fun c4 => ?_) (fun c4 => ?_)
  · (try simp only [sp_b0, Classical.not_not] at c4)
    refine rb_aload_n X (pc := 15) dX5_lean_15 rfl rfl ?_
    refine rb_ldc X (pc := 16) dX5_lean_16 kX5_45 ?_
    refine rc_callVi X (pc := 18) cvX5_finds mX5_74 rb_ob9 (qX5_finds (i := 0) (by decide) (by decide)) (by decide) rfl rfl (Nat.le_of_ble_eq_true rfl) dX5_lean_18 ?_
    refine rb_iret (S := []) X (pc := 21) Y dX5_lean_21 ?_
    exact pm_f hM (by simp [r_lean, ff_0, *]; done)
  · (try simp only [sp_b0, Classical.not_not] at c4)
    refine rb_aload_n X (pc := 7) dX5_lean_7 rfl rfl ?_
    refine rb_iload_n X (pc := 8) dX5_lean_8 rfl rfl ?_
    refine rc_callVi X (pc := 9) cvX5_isRumour mX5_106 rb_ob9 (qX5_isRumour hn4 hn10 _) (by decide) rfl rfl (Nat.le_of_ble_eq_true rfl) dX5_lean_9 ?_
    refine rb_if_ne X (pc := 12) (tgt := 22) dX5_lean_12 (by decide) (fun c12 => ?_) (fun c12 => ?_)
    · (try simp only [sp_b0, Classical.not_not] at c12)
      obtain ⟨q, hq, rfl⟩ := iH_of c4
      have eq1 : ix (nI q) = q := nI_clamp (by omega)
      obtain ⟨r, hr, rfl⟩ := iR_of hok c12
      have er : ix (nI r) = r := nI_clamp (by omega)
      refine rb_aload_n X (pc := 22) dX5_lean_22 rfl rfl ?_
      refine rb_iload_n X (pc := 23) dX5_lean_23 rfl rfl ?_
      refine rc_callVi X (pc := 24) cvX5_isFree mX5_125 rb_ob9 (qX5_isFree hn4 hn10 (by omega)) (by decide) rfl rfl (Nat.le_of_ble_eq_true rfl) dX5_lean_24 ?_
      refine rb_if_eq X (pc := 27) (tgt := 38) dX5_lean_27 (by decide) (fun c27 => ?_) (fun c27 => ?_)
      · (try simp only [sp_b0, Classical.not_not] at c27)
        refine rb_aload_n X (pc := 38) dX5_lean_38 rfl rfl ?_
        refine rb_ldc X (pc := 39) dX5_lean_39 kX5_196 ?_
        refine rc_callVi X (pc := 41) cvX5_finds mX5_74 rb_ob9 (qX5_finds (i := 3) (by decide) (by decide)) (by decide) rfl rfl (Nat.le_of_ble_eq_true rfl) dX5_lean_41 ?_
        refine rb_iret (S := []) X (pc := 44) Y dX5_lean_44 ?_
        first
        | exact pm_0 hM (by simp only [r_lean, c4, c12, er, eq1]; simp [c27])
        | exact pm_f hM (by simp only [r_lean, c4, c12, er, eq1]; simp [c27, ff_3])
      · (try simp only [sp_b0, Classical.not_not] at c27)
        refine rb_aload_n X (pc := 30) dX5_lean_30 rfl rfl ?_
        refine rb_iload_n X (pc := 31) dX5_lean_31 rfl rfl ?_
        refine rc_callVi X (pc := 32) cvX5_needs mX5_109 rb_ob9 (qX5_needs (by omega)) (by decide) rfl rfl (Nat.le_of_ble_eq_true rfl) dX5_lean_32 ?_
        refine rb_goto X (pc := 35) (tgt := 44) dX5_lean_35 (by decide) ?_
        refine rb_iret (S := []) X (pc := 44) Y dX5_lean_44 ?_
        first
        | exact pm_0 hM (by simp only [r_lean, c4, c12, er, eq1]; simp [c27])
        | exact pm_f hM (by simp only [r_lean, c4, c12, er, eq1]; simp [c27, ff_3])
    · (try simp only [sp_b0, Classical.not_not] at c12)
      refine rb_aload_n X (pc := 15) dX5_lean_15 rfl rfl ?_
      refine rb_ldc X (pc := 16) dX5_lean_16 kX5_45 ?_
      refine rc_callVi X (pc := 18) cvX5_finds mX5_74 rb_ob9 (qX5_finds (i := 0) (by decide) (by decide)) (by decide) rfl rfl (Nat.le_of_ble_eq_true rfl) dX5_lean_18 ?_
      refine rb_iret (S := []) X (pc := 21) Y dX5_lean_21 ?_
      exact pm_f hM (by simp [r_lean, ff_0, *]; done)
set_option maxRecDepth 100000 in
set_option maxHeartbeats 1000000 in
theorem qX5_host {G : rb_G} {σ : Sg} {h : rb_H} (hS : okS σ) (hM : MI σ h)  (r0 : Int32) : rb_M G 6 yX5_host cX5_host 3 (some .int) [.ref (rb_ad G 9 0), .int r0] (h) (PM h (r_host σ r0)) := by
  refine rb_meth (L := [.ref (rb_ad G 9 0), .int r0, .null]) (by decide) (Nat.le_of_ble_eq_true rfl) rfl (fun Z X Y => ?_)
  have X : rb_CX Z G cX5_host 3 RX5 6 := X
  obtain ⟨h, rfl⟩ : ∃ h0, h = ms h0 (sT σ) := ⟨h, (rb_row_self hM.1).symm⟩
  have hok := hS.1
  have hn4 := hok.1
  have hn10 := hok.2.1
  refine rb_aload_n X (pc := 0) dX5_host_0 rfl rfl ?_
  refine rb_iload_n X (pc := 1) dX5_host_1 rfl rfl ?_
  refine rc_callVi X (pc := 2) cvX5_isRumour mX5_106 rb_ob9 (qX5_isRumour hn4 hn10 _) (by decide) rfl rfl (Nat.le_of_ble_eq_true rfl) dX5_host_2 ?_
  refine rb_if_ne X (pc := 5) (tgt := 15) dX5_host_5 (by decide) (fun c5 => ?_) (fun c5 => ?_)
  · (try simp only [sp_b0, Classical.not_not] at c5)
    obtain ⟨r, hr, rfl⟩ := iR_of hok c5
    have er : ix (nI r) = r := nI_clamp (by omega)
    obtain ⟨e, he, ee⟩ := (hok.2.2.1 r (by omega)).2.1
    refine rb_aload_n X (pc := 15) dX5_host_15 rfl rfl ?_
    refine rb_aload_n X (pc := 16) dX5_host_16 rfl rfl ?_
    refine rb_iload_n X (pc := 17) dX5_host_17 rfl rfl ?_
    refine rb_iconst (v := 1) X (pc := 18) dX5_host_18 (by decide) ?_
    refine rc_callVi X (pc := 19) cvX5_its mX5_78 rb_ob9 (qI1 (by omega)) (by decide) rfl rfl (Nat.le_of_ble_eq_true rfl) dX5_host_19 ?_
    rw [ee]
    refine rc_callVi X (pc := 22) cvX5_isTrue mX5_131 rb_ob9 (qX5_isTrue he) (by decide) rfl rfl (Nat.le_of_ble_eq_true rfl) dX5_host_22 ?_
    refine rb_if_eq X (pc := 25) (tgt := 32) dX5_host_25 (by decide) (fun c25 => ?_) (fun c25 => ?_)
    · (try simp only [sp_b0, Classical.not_not] at c25)
      have c25 : ¬ sp_tr (sT σ) (nI e) := fun z => z c25
      have eh : sp_host (sT σ) r = sp_hostF (sT σ) (sp_nR (sT σ) r) 8 := by unfold sp_host; rw [ee, if_neg c25]
      refine rb_aload_n X (pc := 32) dX5_host_32 rfl rfl ?_
      refine rb_iload_n X (pc := 33) dX5_host_33 rfl rfl ?_
      refine rc_callVi X (pc := 34) cvX5_hostOf mX5_135 rb_ob9 (qX5_hostOf hn4 hn10 (by omega)) (by decide) rfl rfl (Nat.le_of_ble_eq_true rfl) dX5_host_34 ?_
      refine rb_istore_n X (pc := 37) dX5_host_37 rfl (by decide) rfl rfl ?_
      refine rb_iload_n X (pc := 38) dX5_host_38 rfl rfl ?_
      refine rb_iconst (v := (-1)) X (pc := 39) dX5_host_39 (by decide) ?_
      refine rb_icmp_ne X (pc := 40) (tgt := 52) dX5_host_40 (by decide) (fun c40 => ?_) (fun c40 => ?_)
      · have eR : r_host σ (nI r) = (sp_host (sT σ) r, σ) := by rw [r_host, if_pos c5, er, if_neg (by rw [eh]; exact c40)]
        rw [eh] at eR
        refine rb_iload_n X (pc := 52) dX5_host_52 rfl rfl ?_
        refine rb_iret (S := []) X (pc := 53) Y dX5_host_53 ?_
        first
        | exact pm_0 hM eR
        | exact pm_f hM eR
      · have c40 : sp_host (sT σ) r = -1 := by first | exact eh | (rw [eh]; simpa using c40)
        have eR : r_host σ (nI r) = (-1000000004, fnd σ 3) := by rw [r_host, if_pos c5, er, if_pos c40, ff_3]
        refine rb_aload_n X (pc := 43) dX5_host_43 rfl rfl ?_
        refine rb_ldc X (pc := 44) dX5_host_44 kX5_196 ?_
        refine rc_callVi X (pc := 46) cvX5_finds mX5_74 rb_ob9 (qX5_finds (i := 3) (by decide) (by decide)) (by decide) rfl rfl (Nat.le_of_ble_eq_true rfl) dX5_host_46 ?_
        refine rb_goto X (pc := 49) (tgt := 53) dX5_host_49 (by decide) ?_
        refine rb_iret (S := []) X (pc := 53) Y dX5_host_53 ?_
        first
        | exact pm_0 hM eR
        | exact pm_f hM eR
    · (try simp only [sp_b0, Classical.not_not] at c25)
      have c25 : sp_tr (sT σ) (nI e) := c25
      have eh : sp_host (sT σ) r = -1 := by unfold sp_host; rw [ee, if_pos c25]
      refine rb_iconst (v := (-1)) X (pc := 28) dX5_host_28 (by decide) ?_
      refine rb_goto X (pc := 29) (tgt := 37) dX5_host_29 (by decide) ?_
      refine rb_istore_n X (pc := 37) dX5_host_37 rfl (by decide) rfl rfl ?_
      refine rb_iload_n X (pc := 38) dX5_host_38 rfl rfl ?_
      refine rb_iconst (v := (-1)) X (pc := 39) dX5_host_39 (by decide) ?_
      refine rb_icmp_ne X (pc := 40) (tgt := 52) dX5_host_40 (by decide) (fun c40 => ?_) (fun c40 => ?_)
      · have eR : r_host σ (nI r) = (sp_host (sT σ) r, σ) := by rw [r_host, if_pos c5, er, if_neg (by rw [eh]; exact c40)]
        rw [eh] at eR
        refine rb_iload_n X (pc := 52) dX5_host_52 rfl rfl ?_
        refine rb_iret (S := []) X (pc := 53) Y dX5_host_53 ?_
        first
        | exact pm_0 hM eR
        | exact pm_f hM eR
      · have c40 : sp_host (sT σ) r = -1 := by first | exact eh | (rw [eh]; simpa using c40)
        have eR : r_host σ (nI r) = (-1000000004, fnd σ 3) := by rw [r_host, if_pos c5, er, if_pos c40, ff_3]
        refine rb_aload_n X (pc := 43) dX5_host_43 rfl rfl ?_
        refine rb_ldc X (pc := 44) dX5_host_44 kX5_196 ?_
        refine rc_callVi X (pc := 46) cvX5_finds mX5_74 rb_ob9 (qX5_finds (i := 3) (by decide) (by decide)) (by decide) rfl rfl (Nat.le_of_ble_eq_true rfl) dX5_host_46 ?_
        refine rb_goto X (pc := 49) (tgt := 53) dX5_host_49 (by decide) ?_
        refine rb_iret (S := []) X (pc := 53) Y dX5_host_53 ?_
        first
        | exact pm_0 hM eR
        | exact pm_f hM eR
  · (try simp only [sp_b0, Classical.not_not] at c5)
    refine rb_aload_n X (pc := 8) dX5_host_8 rfl rfl ?_
    refine rb_ldc X (pc := 9) dX5_host_9 kX5_45 ?_
    refine rc_callVi X (pc := 11) cvX5_finds mX5_74 rb_ob9 (qX5_finds (i := 0) (by decide) (by decide)) (by decide) rfl rfl (Nat.le_of_ble_eq_true rfl) dX5_host_11 ?_
    refine rb_iret (S := []) X (pc := 14) Y dX5_host_14 ?_
    exact pm_f hM (by simp [r_host, ff_0, c5])
