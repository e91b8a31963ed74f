set_option maxRecDepth 100000 in
set_option maxHeartbeats 1000000 in
theorem lpX4_empty_27 {Z : rb_Z} {G : rb_G} {σ : Sg} {h : rb_H} (hS : okS σ) (hC : CI σ (tw h 0 (sT σ))) {q : Nat} (hq : q < 8) (cI : iH (nI q) = true) (X : rb_CX Z G cX4_empty 3 RX4 5) (Y : rb_RT Z G (some .int) (PC (tw h 0 (sT σ)) (r_empty σ (nI q)))) : ∀ fu : Nat, ∀ i : Nat, i ≤ 61 → 62 ≤ i + fu → (∀ n, n < i → decide (sp_days (sT σ) n 1 q = 0) = false) → rb_WP Z G 3 27 [.ref (rb_ad G 8 0), .int (nI q), .int (nI i)] [] (tw (tw h 0 (sT σ)) 1 (sp_days (sT σ) i)) := by
  intro fu
  induction fu with
  | zero => intro i hi hf hno; omega
  | succ fu ih =>
    intro i hi hf hno
    have hok := hS.1
    have hn10 := hok.2.1
    have hki := sp_days_ok hok i
    have ea : ix (nI q) = q := nI_clamp (by omega)
    refine rb_iload_n X (pc := 27) dX4_empty_27 rfl rfl ?_
    refine rb_bipush (v := 60) X (pc := 28) dX4_empty_28 (by decide) ?_
    refine rb_icmp_gt X (pc := 30) (tgt := 60) dX4_empty_30 (by decide) (fun c30 => ?_) (fun c30 => ?_)
    · have hi2 : 61 ≤ i := by
        have z := Int32.not_le.mpr c30
        rcases Nat.lt_or_ge i 61 with w | w
        · exact absurd ((nI_leI (b := 60) (by omega) (by omega)).mpr (by omega)) z
        · exact w
      obtain rfl : i = 61 := by omega
      refine rb_aload_n X (pc := 60) dX4_empty_60 rfl rfl ?_
      refine rb_ldc X (pc := 61) dX4_empty_61 kX4_184 ?_
      refine rc_callVi X (pc := 63) cvX4_finding mX4_57 rb_ob8 (qX4_finding (i := 3) (by decide) (by decide)) (by decide) rfl rfl (Nat.le_of_ble_eq_true rfl) dX4_empty_63 ?_
      refine rb_iret (S := []) X (pc := 66) Y dX4_empty_66 ?_
      have hk : k_emp (sT σ) q = 61 := fa_first_none hno
      exact pc_Af hC (by simp [r_empty, cI, ea, hk, ff_3])
    · have hi2 : i ≤ 60 := (nI_leI (b := 60) (by omega) (by omega)).mp (Int32.not_lt.mp c30)
      refine rb_aload_n X (pc := 33) dX4_empty_33 rfl rfl ?_
      refine rc_getO (q := 1) X (pc := 34) fX4_16 rb_ob8 rfl dX4_empty_34 ?_
      refine rc_getR X (pc := 37) fX4_63 (rb_obT (t := 1) (by decide)) rfl dX4_empty_37 ?_
      refine rb_iload_n X (pc := 40) dX4_empty_40 rfl rfl ?_
      refine rc_iald X (pc := 41) _ (rb_arT1 (t := 1) (by decide)) (rb_tj1 (t := 1)) rfl (by omega) dX4_empty_41 ?_
      refine rb_if_ne X (pc := 42) (tgt := 47) dX4_empty_42 (by decide) (fun c42 => ?_) (fun c42 => ?_)
      · refine rb_aload_n X (pc := 47) dX4_empty_47 rfl rfl ?_
        refine rc_getO (q := 1) X (pc := 48) fX4_16 rb_ob8 rfl dX4_empty_48 ?_
        refine rc_callVv X (pc := 51) cvX3_passDay mX4_181 (rb_obT (t := 1) (by decide)) (qX3_passDay (t := 1) (by decide) (T := sp_days (sT σ) i) hki) (by decide) rfl rfl (Nat.le_of_ble_eq_true rfl) dX4_empty_51 ?_
        refine rb_iinc X (pc := 54) dX4_empty_54 rfl (sp_inc _) (by decide) rfl rfl ?_
        refine rb_goto X (pc := 57) (tgt := 27) dX4_empty_57 (by decide) ?_
        exact sp_go rfl rfl (ih (i + 1) (by omega) (by omega) (fun n hn => by
          by_cases e : n = i
          · subst e; exact decide_eq_false (by simpa using c42)
          · exact hno n (by omega)))
      · refine rb_iload_n X (pc := 45) dX4_empty_45 rfl rfl ?_
        refine rb_iret (S := []) X (pc := 46) Y dX4_empty_46 ?_
        have hk : k_emp (sT σ) q = i := fa_first_eq (by omega) (decide_eq_true (by simpa using c42)) hno
        exact pc_A hC (by simp [r_empty, cI, ea, hk, show i < 61 by omega])
set_option maxRecDepth 100000 in
set_option maxHeartbeats 1000000 in
theorem qX4_empty {G : rb_G} {σ : Sg} {h : rb_H} (hS : okS σ) (hC : CI σ h)  (a : Int32) : rb_M G 5 yX4_empty cX4_empty 3 (some .int) [.ref (rb_ad G 8 0), .int a] (h) (PC h (r_empty σ a)) := by
  refine rb_meth (L := [.ref (rb_ad G 8 0), .int a, .null]) (by decide) (Nat.le_of_ble_eq_true rfl) rfl (fun Z X Y => ?_)
  have X : rb_CX Z G cX4_empty 3 RX4 5 := X
  obtain ⟨h, rfl⟩ : ∃ h0, h = tw h0 0 (sT σ) := ⟨h, (rb_st_self hC.1).symm⟩
  have hok := hS.1
  have hn4 := hok.1
  have hn10 := hok.2.1
  refine rb_iload_n X (pc := 0) dX4_empty_0 rfl rfl ?_
  refine rc_callSi X (pc := 1) cvX4_isHouse mX4_44 (qX4_isHouse _) (by decide) rfl rfl (Nat.le_of_ble_eq_true rfl) dX4_empty_1 ?_
  refine rb_if_ne X (pc := 4) (tgt := 14) dX4_empty_4 (by decide) (fun c4 => ?_) (fun c4 => ?_)
  · (try simp only [sp_b0, Classical.not_not] at c4)
    obtain ⟨q, hq, rfl⟩ := iH_of c4
    refine rb_aload_n X (pc := 14) dX4_empty_14 rfl rfl ?_
    refine rc_getO (q := 1) X (pc := 15) fX4_16 rb_ob8 rfl dX4_empty_15 ?_
    refine rb_aload_n X (pc := 18) dX4_empty_18 rfl rfl ?_
    refine rc_getO (q := 0) X (pc := 19) fX4_10 rb_ob8 rfl dX4_empty_19 ?_
    refine rc_callVv X (pc := 22) cvX3_becomes mX4_177 (rb_obT (t := 1) (by decide)) (qX3_becomes (t := 1) (t2 := 0) (by decide) (by decide) (by decide) (M2 := wl (sT σ)) rfl) (by decide) rfl rfl (Nat.le_of_ble_eq_true rfl) dX4_empty_22 ?_
    refine rb_iconst (v := 0) X (pc := 25) dX4_empty_25 (by decide) ?_
    refine rb_istore_n X (pc := 26) dX4_empty_26 rfl (by decide) rfl rfl ?_
    exact sp_go rfl rfl (lpX4_empty_27 hS hC hq c4 X Y 62 0 (by omega) (by omega) (fun n hn => absurd hn (by omega)))
  · (try simp only [sp_b0, Classical.not_not] at c4)
    refine rb_aload_n X (pc := 7) dX4_empty_7 rfl rfl ?_
    refine rb_ldc X (pc := 8) dX4_empty_8 kX4_56 ?_
    refine rc_callVi X (pc := 10) cvX4_finding mX4_57 rb_ob8 (qX4_finding (i := 0) (by decide) (by decide)) (by decide) rfl rfl (Nat.le_of_ble_eq_true rfl) dX4_empty_10 ?_
    refine rb_iret (S := []) X (pc := 13) Y dX4_empty_13 ?_
    first
    | exact pc_f hC (by simp [r_empty, ff_0, *]; done)
    | exact pc_Af hC (by simp [r_empty, ff_0, *]; done)
set_option maxRecDepth 100000 in
set_option maxHeartbeats 1000000 in
theorem lpX4_out_28 {Z : rb_Z} {G : rb_G} {σ : Sg} {h : rb_H} (hS : okS σ) (hC : CI σ (tw h 0 (sT σ))) {r : Nat} (hr : r < sp_n (sT σ)) (cI : iR (sT σ) (nI r) = true) (X : rb_CX Z G cX4_out 3 RX4 5) (Y : rb_RT Z G (some .int) (PC (tw h 0 (sT σ)) (r_out σ (nI r)))) : ∀ fu : Nat, ∀ i : Nat, i ≤ 61 → 62 ≤ i + fu → (∀ n, n < i → decide (sp_days (sT σ) n 9 r = -1) = false) → rb_WP Z G 3 28 [.ref (rb_ad G 8 0), .int (nI r), .int (nI i)] [] (tw (tw h 0 (sT σ)) 1 (sp_days (sT σ) i)) := by
  intro fu
  induction fu with
  | zero => intro i hi hf hno; omega
  | succ fu ih =>
    intro i hi hf hno
    have hok := hS.1
    have hn10 := hok.2.1
    have hki := sp_days_ok hok i
    have ea : ix (nI r) = r := nI_clamp (by omega)
    refine rb_iload_n X (pc := 28) dX4_out_28 rfl rfl ?_
    refine rb_bipush (v := 60) X (pc := 29) dX4_out_29 (by decide) ?_
    refine rb_icmp_gt X (pc := 31) (tgt := 62) dX4_out_31 (by decide) (fun c31 => ?_) (fun c31 => ?_)
    · have hi2 : 61 ≤ i := by
        have z := Int32.not_le.mpr c31
        rcases Nat.lt_or_ge i 61 with w | w
        · exact absurd ((nI_leI (b := 60) (by omega) (by omega)).mpr (by omega)) z
        · exact w
      obtain rfl : i = 61 := by omega
      refine rb_aload_n X (pc := 62) dX4_out_62 rfl rfl ?_
      refine rb_ldc X (pc := 63) dX4_out_63 kX4_184 ?_
      refine rc_callVi X (pc := 65) cvX4_finding mX4_57 rb_ob8 (qX4_finding (i := 3) (by decide) (by decide)) (by decide) rfl rfl (Nat.le_of_ble_eq_true rfl) dX4_out_65 ?_
      refine rb_iret (S := []) X (pc := 68) Y dX4_out_68 ?_
      have hk : k_out (sT σ) r = 61 := fa_first_none hno
      exact pc_Af hC (by simp [r_out, cI, ea, hk, ff_3])
    · have hi2 : i ≤ 60 := (nI_leI (b := 60) (by omega) (by omega)).mp (Int32.not_lt.mp c31)
      refine rb_aload_n X (pc := 34) dX4_out_34 rfl rfl ?_
      refine rc_getO (q := 1) X (pc := 35) fX4_16 rb_ob8 rfl dX4_out_35 ?_
      refine rc_getR X (pc := 38) fX4_108 (rb_obT (t := 1) (by decide)) rfl dX4_out_38 ?_
      refine rb_iload_n X (pc := 41) dX4_out_41 rfl rfl ?_
      refine rc_iald X (pc := 42) _ (rb_arT9 (t := 1) (by decide)) (rb_tj9 (t := 1)) rfl (by omega) dX4_out_42 ?_
      refine rb_iconst (v := (-1)) X (pc := 43) dX4_out_43 (by decide) ?_
      refine rb_icmp_ne X (pc := 44) (tgt := 49) dX4_out_44 (by decide) (fun c44 => ?_) (fun c44 => ?_)
      · refine rb_aload_n X (pc := 49) dX4_out_49 rfl rfl ?_
        refine rc_getO (q := 1) X (pc := 50) fX4_16 rb_ob8 rfl dX4_out_50 ?_
        refine rc_callVv X (pc := 53) cvX3_passDay mX4_181 (rb_obT (t := 1) (by decide)) (qX3_passDay (t := 1) (by decide) (T := sp_days (sT σ) i) hki) (by decide) rfl rfl (Nat.le_of_ble_eq_true rfl) dX4_out_53 ?_
        refine rb_iinc X (pc := 56) dX4_out_56 rfl (sp_inc _) (by decide) rfl rfl ?_
        refine rb_goto X (pc := 59) (tgt := 28) dX4_out_59 (by decide) ?_
        exact sp_go rfl rfl (ih (i + 1) (by omega) (by omega) (fun n hn => by
          by_cases e : n = i
          · subst e; exact decide_eq_false (by simpa using c44)
          · exact hno n (by omega)))
      · refine rb_iload_n X (pc := 47) dX4_out_47 rfl rfl ?_
        refine rb_iret (S := []) X (pc := 48) Y dX4_out_48 ?_
        have hk : k_out (sT σ) r = i := fa_first_eq (by omega) (decide_eq_true (by simpa using c44)) hno
        exact pc_A hC (by simp [r_out, cI, ea, hk, show i < 61 by omega])
set_option maxRecDepth 100000 in
set_option maxHeartbeats 1000000 in
theorem qX4_out {G : rb_G} {σ : Sg} {h : rb_H} (hS : okS σ) (hC : CI σ h)  (a : Int32) : rb_M G 5 yX4_out cX4_out 3 (some .int) [.ref (rb_ad G 8 0), .int a] (h) (PC h (r_out σ a)) := by
  refine rb_meth (L := [.ref (rb_ad G 8 0), .int a, .null]) (by decide) (Nat.le_of_ble_eq_true rfl) rfl (fun Z X Y => ?_)
  have X : rb_CX Z G cX4_out 3 RX4 5 := X
  obtain ⟨h, rfl⟩ : ∃ h0, h = tw h0 0 (sT σ) := ⟨h, (rb_st_self hC.1).symm⟩
  have hok := hS.1
  have hn4 := hok.1
  have hn10 := hok.2.1
  refine rb_aload_n X (pc := 0) dX4_out_0 rfl rfl ?_
  refine rb_iload_n X (pc := 1) dX4_out_1 rfl rfl ?_
  refine rc_callVi X (pc := 2) cvX4_isRumour mX4_93 rb_ob8 (qX4_isRumour _) (by decide) rfl rfl (Nat.le_of_ble_eq_true rfl) dX4_out_2 ?_
  refine rb_if_ne X (pc := 5) (tgt := 15) dX4_out_5 (by decide) (fun c5 => ?_) (fun c5 => ?_)
  · (try simp only [sp_b0, Classical.not_not] at c5)
    obtain ⟨r, hr, rfl⟩ := iR_of hok c5
    refine rb_aload_n X (pc := 15) dX4_out_15 rfl rfl ?_
    refine rc_getO (q := 1) X (pc := 16) fX4_16 rb_ob8 rfl dX4_out_16 ?_
    refine rb_aload_n X (pc := 19) dX4_out_19 rfl rfl ?_
    refine rc_getO (q := 0) X (pc := 20) fX4_10 rb_ob8 rfl dX4_out_20 ?_
    refine rc_callVv X (pc := 23) cvX3_becomes mX4_177 (rb_obT (t := 1) (by decide)) (qX3_becomes (t := 1) (t2 := 0) (by decide) (by decide) (by decide) (M2 := wl (sT σ)) rfl) (by decide) rfl rfl (Nat.le_of_ble_eq_true rfl) dX4_out_23 ?_
    refine rb_iconst (v := 0) X (pc := 26) dX4_out_26 (by decide) ?_
    refine rb_istore_n X (pc := 27) dX4_out_27 rfl (by decide) rfl rfl ?_
    exact sp_go rfl rfl (lpX4_out_28 hS hC hr c5 X Y 62 0 (by omega) (by omega) (fun n hn => absurd hn (by omega)))
  · (try simp only [sp_b0, Classical.not_not] at c5)
    refine rb_aload_n X (pc := 8) dX4_out_8 rfl rfl ?_
    refine rb_ldc X (pc := 9) dX4_out_9 kX4_56 ?_
    refine rc_callVi X (pc := 11) cvX4_finding mX4_57 rb_ob8 (qX4_finding (i := 0) (by decide) (by decide)) (by decide) rfl rfl (Nat.le_of_ble_eq_true rfl) dX4_out_11 ?_
    refine rb_iret (S := []) X (pc := 14) Y dX4_out_14 ?_
    first
    | exact pc_f hC (by simp [r_out, ff_0, *]; done)
    | exact pc_Af hC (by simp [r_out, ff_0, *]; done)
theorem sp_imps_s {T : rb_T} {r i : Nat} : sp_imps T r (i + 1) = sp_imp (sp_imps T r i) r 1 := by unfold sp_imps; exact sp_fold_s
theorem sp_imps_0 {T : rb_T} {r : Nat} : sp_imps T r 0 = T := by unfold sp_imps; rfl
theorem sp_imp_n {T : rb_T} {r : Nat} {v : Int32} : sp_n (sp_imp T r v) = sp_n T := by
  unfold sp_imp
  split
  · rw [sp_n_u2 (by decide)]; exact sp_n_u2 (by decide)
  · exact sp_n_u2 (by decide)
theorem sp_imps_ok {T : rb_T} (h : sp_ok T) {r : Nat} (hr : r < 10) : ∀ i, sp_ok (sp_imps T r i) ∧ sp_n (sp_imps T r i) = sp_n T
  | 0 => by rw [sp_imps_0]; exact ⟨h, rfl⟩
  | i + 1 => by
    obtain ⟨h1, h2⟩ := sp_imps_ok h hr i
    rw [sp_imps_s]
    exact ⟨sp_imp_ok (v := 1) h1 hr (by decide), by rw [sp_imp_n, h2]⟩
theorem sp_imp_pl {T : rb_T} {r p : Nat} {v : Int32} (hp1 : p < 8) (hp : T 9 r = nI p) : ∃ p2, p2 < 8 ∧ sp_imp T r v 9 r = nI p2 := by
  unfold sp_imp
  split
  · exact ⟨_, sp_nx_lt, by rw [u2_same]⟩
  · exact ⟨p, hp1, hp⟩
theorem sp_imps_pl {T : rb_T} {r p : Nat} (hp1 : p < 8) (hp : T 9 r = nI p) : ∀ i, ∃ p2, p2 < 8 ∧ sp_imps T r i 9 r = nI p2
  | 0 => by rw [sp_imps_0]; exact ⟨p, hp1, hp⟩
  | i + 1 => by
    obtain ⟨p2, h1, h2⟩ := sp_imps_pl hp1 hp i
    rw [sp_imps_s]
    exact sp_imp_pl h1 h2
set_option maxRecDepth 100000 in
set_option maxHeartbeats 1000000 in
theorem lpX4_fewest_55 {Z : rb_Z} {G : rb_G} {σ : Sg} {h : rb_H} (hS : okS σ) (hC : CI σ (tw h 0 (sT σ))) {r p q : Nat} (hr : r < sp_n (sT σ)) (hp1 : p < 8) (hp : sT σ 9 r = nI p) (hq : q < 8) (cR : iR (sT σ) (nI r) = true) (cH : iH (nI q) = true) (X : rb_CX Z G cX4_fewest 4 RX4 3) (Y : rb_RT Z G (some .int) (PC (tw h 0 (sT σ)) (r_fewest σ (nI r) (nI q)))) : ∀ fu : Nat, ∀ i : Nat, i ≤ 41 → 42 ≤ i + fu → (∀ n, n < i → decide (sp_imps (sT σ) r n 9 r = nI q) = false) → rb_WP Z G 4 55 [.ref (rb_ad G 8 0), .int (nI r), .int (nI q), .int (nI i)] [] (tw (tw h 0 (sT σ)) 1 (sp_imps (sT σ) r i)) := by
  intro fu
  induction fu with
  | zero => intro i hi hf hno; omega
  | succ fu ih =>
    intro i hi hf hno
    have hok := hS.1
    have hn10 := hok.2.1
    obtain ⟨hki, hni⟩ := sp_imps_ok hok (show r < 10 by omega) i
    obtain ⟨p2, hp21, hp2⟩ := sp_imps_pl hp1 hp i
    have er : ix (nI r) = r := nI_clamp (by omega)
    have hm1 : ¬ sT σ 9 r = -1 := by rw [hp]; exact fun z => sp_m1 (by omega) z.symm
    refine rb_iload_n X (pc := 55) dX4_fewest_55 rfl rfl ?_
    refine rb_bipush (v := 40) X (pc := 56) dX4_fewest_56 (by decide) ?_
    refine rb_icmp_gt X (pc := 58) (tgt := 91) dX4_fewest_58 (by decide) (fun c58 => ?_) (fun c58 => ?_)
    · have hi2 : 41 ≤ i := by
        have z := Int32.not_le.mpr c58
        rcases Nat.lt_or_ge i 41 with w | w
        · exact absurd ((nI_leI (b := 40) (by omega) (by omega)).mpr (by omega)) z
        · exact w
      obtain rfl : i = 41 := by omega
      refine rb_aload_n X (pc := 91) dX4_fewest_91 rfl rfl ?_
      refine rb_ldc X (pc := 92) dX4_fewest_92 kX4_184 ?_
      refine rc_callVi X (pc := 94) cvX4_finding mX4_57 rb_ob8 (qX4_finding (i := 3) (by decide) (by decide)) (by decide) rfl rfl (Nat.le_of_ble_eq_true rfl) dX4_fewest_94 ?_
      refine rb_iret (S := []) X (pc := 97) Y dX4_fewest_97 ?_
      have hk : k_few (sT σ) r (nI q) = 41 := fa_first_none hno
      exact pc_Af hC (by simp [r_fewest, cR, cH, er, hk, hm1, ff_3])
    · have hi2 : i ≤ 40 := (nI_leI (b := 40) (by omega) (by omega)).mp (Int32.not_lt.mp c58)
      refine rb_aload_n X (pc := 61) dX4_fewest_61 rfl rfl ?_
      refine rc_getO (q := 1) X (pc := 62) fX4_16 rb_ob8 rfl dX4_fewest_62 ?_
      refine rc_getR X (pc := 65) fX4_108 (rb_obT (t := 1) (by decide)) rfl dX4_fewest_65 ?_
      refine rb_iload_n X (pc := 68) dX4_fewest_68 rfl rfl ?_
      refine rc_iald X (pc := 69) _ (rb_arT9 (t := 1) (by decide)) (rb_tj9 (t := 1)) rfl (by omega) dX4_fewest_69 ?_
      refine rb_iload_n X (pc := 70) dX4_fewest_70 rfl rfl ?_
      refine rb_icmp_ne X (pc := 71) (tgt := 76) dX4_fewest_71 (by decide) (fun c71 => ?_) (fun c71 => ?_)
      · refine rb_aload_n X (pc := 76) dX4_fewest_76 rfl rfl ?_
        refine rc_getO (q := 1) X (pc := 77) fX4_16 rb_ob8 rfl dX4_fewest_77 ?_
        refine rb_iload_n X (pc := 80) dX4_fewest_80 rfl rfl ?_
        refine rb_iconst (v := 1) X (pc := 81) dX4_fewest_81 (by decide) ?_
        refine rc_callVv X (pc := 82) cvX3_improveBy mX4_143 (rb_obT (t := 1) (by decide)) (qX3_improveBy (t := 1) (by decide) (T := sp_imps (sT σ) r i) (by omega) (by omega) hp21 hp2) (by decide) rfl rfl (Nat.le_of_ble_eq_true rfl) dX4_fewest_82 ?_
        refine rb_iinc X (pc := 85) dX4_fewest_85 rfl (sp_inc _) (by decide) rfl rfl ?_
        refine rb_goto X (pc := 88) (tgt := 55) dX4_fewest_88 (by decide) ?_
        exact sp_go rfl (by rw [sp_imps_s]) (ih (i + 1) (by omega) (by omega) (fun n hn => by
          by_cases e : n = i
          · subst e; exact decide_eq_false (by simpa using c71)
          · exact hno n (by omega)))
      · refine rb_iload_n X (pc := 74) dX4_fewest_74 rfl rfl ?_
        refine rb_iret (S := []) X (pc := 75) Y dX4_fewest_75 ?_
        have hk : k_few (sT σ) r (nI q) = i := fa_first_eq (by omega) (decide_eq_true (by simpa using c71)) hno
        exact pc_A hC (by simp [r_fewest, cR, cH, er, hk, hm1, show i < 41 by omega])
set_option maxRecDepth 100000 in
set_option maxHeartbeats 1000000 in
theorem qX4_fewest {G : rb_G} {σ : Sg} {h : rb_H} (hS : okS σ) (hC : CI σ h)  (a b : Int32) : rb_M G 3 yX4_fewest cX4_fewest 4 (some .int) [.ref (rb_ad G 8 0), .int a, .int b] (h) (PC h (r_fewest σ a b)) := by
  refine rb_meth (L := [.ref (rb_ad G 8 0), .int a, .int b, .null]) (by decide) (Nat.le_of_ble_eq_true rfl) rfl (fun Z X Y => ?_)
  have X : rb_CX Z G cX4_fewest 4 RX4 3 := X
  obtain ⟨h, rfl⟩ : ∃ h0, h = tw h0 0 (sT σ) := ⟨h, (rb_st_self hC.1).symm⟩
  have hok := hS.1
  have hn4 := hok.1
  have hn10 := hok.2.1
  refine rb_aload_n X (pc := 0) dX4_fewest_0 rfl rfl ?_
  refine rb_iload_n X (pc := 1) dX4_fewest_1 rfl rfl ?_
  refine rc_callVi X (pc := 2) cvX4_isRumour mX4_93 rb_ob8 (qX4_isRumour _) (by decide) rfl rfl (Nat.le_of_ble_eq_true rfl) dX4_fewest_2 ?_
  refine rb_if_eq X (pc := 5) (tgt := 15) dX4_fewest_5 (by decide) (fun c5 => ?_) (fun c5 => ?_)
  · (try simp only [sp_b0, Classical.not_not] at c5)
    refine rb_aload_n X (pc := 15) dX4_fewest_15 rfl rfl ?_
    refine rb_ldc X (pc := 16) dX4_fewest_16 kX4_56 ?_
    refine rc_callVi X (pc := 18) cvX4_finding mX4_57 rb_ob8 (qX4_finding (i := 0) (by decide) (by decide)) (by decide) rfl rfl (Nat.le_of_ble_eq_true rfl) dX4_fewest_18 ?_
    refine rb_iret (S := []) X (pc := 21) Y dX4_fewest_21 ?_
    first
    | exact pc_f hC (by simp [r_fewest, ff_0, *]; done)
    | exact pc_Af hC (by simp [r_fewest, ff_0, *]; done)
  · (try simp only [sp_b0, Classical.not_not] at c5)
    refine rb_iload_n X (pc := 8) dX4_fewest_8 rfl rfl ?_
    refine rc_callSi X (pc := 9) cvX4_isHouse mX4_44 (qX4_isHouse _) (by decide) rfl rfl (Nat.le_of_ble_eq_true rfl) dX4_fewest_9 ?_
    refine rb_if_ne X (pc := 12) (tgt := 22) dX4_fewest_12 (by decide) (fun c12 => ?_) (fun c12 => ?_)
    · (try simp only [sp_b0, Classical.not_not] at c12)
      obtain ⟨r, hr, rfl⟩ := iR_of hok c5
      obtain ⟨q, hq, rfl⟩ := iH_of c12
      have er : ix (nI r) = r := nI_clamp (by omega)
      refine rb_aload_n X (pc := 22) dX4_fewest_22 rfl rfl ?_
      refine rc_getO (q := 0) X (pc := 23) fX4_10 rb_ob8 rfl dX4_fewest_23 ?_
      refine rc_getR X (pc := 26) fX4_108 (rb_obT (t := 0) (by decide)) rfl dX4_fewest_26 ?_
      refine rb_iload_n X (pc := 29) dX4_fewest_29 rfl rfl ?_
      refine rc_iald X (pc := 30) _ (rb_arT9 (t := 0) (by decide)) (rb_tj9 (t := 0)) rfl (by omega) dX4_fewest_30 ?_
      refine rb_iconst (v := (-1)) X (pc := 31) dX4_fewest_31 (by decide) ?_
      refine rb_icmp_ne X (pc := 32) (tgt := 42) dX4_fewest_32 (by decide) (fun c32 => ?_) (fun c32 => ?_)
      · obtain ⟨p, hp1, hp⟩ := sp_pl_ne (hok.2.2.1 r (by omega)).2.2.2.2 c32
        refine rb_aload_n X (pc := 42) dX4_fewest_42 rfl rfl ?_
        refine rc_getO (q := 1) X (pc := 43) fX4_16 rb_ob8 rfl dX4_fewest_43 ?_
        refine rb_aload_n X (pc := 46) dX4_fewest_46 rfl rfl ?_
        refine rc_getO (q := 0) X (pc := 47) fX4_10 rb_ob8 rfl dX4_fewest_47 ?_
        refine rc_callVv X (pc := 50) cvX3_becomes mX4_177 (rb_obT (t := 1) (by decide)) (qX3_becomes (t := 1) (t2 := 0) (by decide) (by decide) (by decide) (M2 := wl (sT σ)) rfl) (by decide) rfl rfl (Nat.le_of_ble_eq_true rfl) dX4_fewest_50 ?_
        refine rb_iconst (v := 0) X (pc := 53) dX4_fewest_53 (by decide) ?_
        refine rb_istore_n X (pc := 54) dX4_fewest_54 rfl (by decide) rfl rfl ?_
        exact sp_go rfl (by rw [sp_imps_0]) (lpX4_fewest_55 hS hC hr hp1 hp hq c5 c12 X Y 42 0 (by omega) (by omega) (fun n hn => absurd hn (by omega)))
      · refine rb_aload_n X (pc := 35) dX4_fewest_35 rfl rfl ?_
        refine rb_ldc X (pc := 36) dX4_fewest_36 kX4_135 ?_
        refine rc_callVi X (pc := 38) cvX4_finding mX4_57 rb_ob8 (qX4_finding (i := 4) (by decide) (by decide)) (by decide) rfl rfl (Nat.le_of_ble_eq_true rfl) dX4_fewest_38 ?_
        refine rb_iret (S := []) X (pc := 41) Y dX4_fewest_41 ?_
        exact pc_f hC (by simp [r_fewest, c5, c12, er, ff_4, show sT σ 9 r = -1 by simpa using c32])
    · (try simp only [sp_b0, Classical.not_not] at c12)
      refine rb_aload_n X (pc := 15) dX4_fewest_15 rfl rfl ?_
      refine rb_ldc X (pc := 16) dX4_fewest_16 kX4_56 ?_
      refine rc_callVi X (pc := 18) cvX4_finding mX4_57 rb_ob8 (qX4_finding (i := 0) (by decide) (by decide)) (by decide) rfl rfl (Nat.le_of_ble_eq_true rfl) dX4_fewest_18 ?_
      refine rb_iret (S := []) X (pc := 21) Y dX4_fewest_21 ?_
      first
      | exact pc_f hC (by simp [r_fewest, ff_0, *]; done)
      | exact pc_Af hC (by simp [r_fewest, ff_0, *]; done)
set_option maxRecDepth 100000 in
set_option maxHeartbeats 1000000 in
theorem lpX4_least_37 {Z : rb_Z} {G : rb_G} {σ : Sg} {h : rb_H} (hS : okS σ) (hC : CI σ (tw h 0 (sT σ))) {r p : Nat} (hr : r < sp_n (sT σ)) (hp1 : p < 8) (hp : sT σ 9 r = nI p) (cR : iR (sT σ) (nI r) = true) (X : rb_CX Z G cX4_least 3 RX4 3) (Y : rb_RT Z G (some .int) (PC (tw h 0 (sT σ)) (r_least σ (nI r)))) : ∀ fu : Nat, ∀ (i : Nat) (M : rb_T), i ≤ 20 → 21 ≤ i + fu → (∀ n, n < i → decide (¬ sp_imp (sT σ) r (nI (n + 1)) 9 r = sT σ 9 r) = false) → rb_WP Z G 3 37 [.ref (rb_ad G 8 0), .int (nI r), .int (nI (i + 1))] [] (rb_st (tw h 0 (sT σ)) 1 M) := by
  intro fu
  induction fu with
  | zero => intro i M hi hf hno; omega
  | succ fu ih =>
    intro i M hi hf hno
    have hok := hS.1
    have hn10 := hok.2.1
    have er : ix (nI r) = r := nI_clamp (by omega)
    have hm1 : ¬ sT σ 9 r = -1 := by rw [hp]; exact fun z => sp_m1 (by omega) z.symm
    refine rb_iload_n X (pc := 37) dX4_least_37 rfl rfl ?_
    refine rb_bipush (v := 20) X (pc := 38) dX4_least_38 (by decide) ?_
    refine rb_icmp_gt X (pc := 40) (tgt := 92) dX4_least_40 (by decide) (fun c40 => ?_) (fun c40 => ?_)
    · have hi2 : 20 ≤ i := by
        have z := Int32.not_le.mpr c40
        rcases Nat.lt_or_ge i 20 with w | w
        · exact absurd ((nI_leI (a := i + 1) (b := 20) (by omega) (by omega)).mpr (by omega)) z
        · exact w
      obtain rfl : i = 20 := by omega
      refine rb_aload_n X (pc := 92) dX4_least_92 rfl rfl ?_
      refine rb_ldc X (pc := 93) dX4_least_93 kX4_184 ?_
      refine rc_callVi X (pc := 95) cvX4_finding mX4_57 rb_ob8 (qX4_finding (i := 3) (by decide) (by decide)) (by decide) rfl rfl (Nat.le_of_ble_eq_true rfl) dX4_least_95 ?_
      refine rb_iret (S := []) X (pc := 98) Y dX4_least_98 ?_
      have hk : k_least (sT σ) r = 20 := fa_first_none hno
      exact pc_Af hC (by simp [r_least, cR, er, hk, hm1, ff_3])
    · have hi2 : i + 1 ≤ 20 := (nI_leI (b := 20) (by omega) (by omega)).mp (Int32.not_lt.mp c40)
      refine rb_aload_n X (pc := 43) dX4_least_43 rfl rfl ?_
      refine rc_getO (q := 1) X (pc := 44) fX4_16 rb_ob8 rfl dX4_least_44 ?_
      refine rb_aload_n X (pc := 47) dX4_least_47 rfl rfl ?_
      refine rc_getO (q := 0) X (pc := 48) fX4_10 rb_ob8 rfl dX4_least_48 ?_
      refine rc_callVv X (pc := 51) cvX3_becomes mX4_177 (rb_obT (t := 1) (by decide)) (qX3_becomes (t := 1) (t2 := 0) (by decide) (by decide) (by decide) (M2 := wl (sT σ)) rfl) (by decide) rfl rfl (Nat.le_of_ble_eq_true rfl) dX4_least_51 ?_
      rw [rb_st_st]
      refine rb_aload_n X (pc := 54) dX4_least_54 rfl rfl ?_
      refine rc_getO (q := 1) X (pc := 55) fX4_16 rb_ob8 rfl dX4_least_55 ?_
      refine rb_iload_n X (pc := 58) dX4_least_58 rfl rfl ?_
      refine rb_iload_n X (pc := 59) dX4_least_59 rfl rfl ?_
      refine rc_callVv X (pc := 60) cvX3_improveBy mX4_143 (rb_obT (t := 1) (by decide)) (qX3_improveBy (t := 1) (by decide) (T := sT σ) (by omega) (by omega) hp1 hp) (by decide) rfl rfl (Nat.le_of_ble_eq_true rfl) dX4_least_60 ?_
      refine rb_aload_n X (pc := 63) dX4_least_63 rfl rfl ?_
      refine rc_getO (q := 1) X (pc := 64) fX4_16 rb_ob8 rfl dX4_least_64 ?_
      refine rc_getR X (pc := 67) fX4_108 (rb_obT (t := 1) (by decide)) rfl dX4_least_67 ?_
      refine rb_iload_n X (pc := 70) dX4_least_70 rfl rfl ?_
      refine rc_iald X (pc := 71) _ (rb_arT9 (t := 1) (by decide)) (rb_tj9 (t := 1)) rfl (by omega) dX4_least_71 ?_
      refine rb_aload_n X (pc := 72) dX4_least_72 rfl rfl ?_
      refine rc_getO (q := 0) X (pc := 73) fX4_10 rb_ob8 rfl dX4_least_73 ?_
      refine rc_getR X (pc := 76) fX4_108 (rb_obT (t := 0) (by decide)) rfl dX4_least_76 ?_
      refine rb_iload_n X (pc := 79) dX4_least_79 rfl rfl ?_
      refine rc_iald X (pc := 80) _ (rb_arT9 (t := 0) (by decide)) (show (tw (tw h 0 (sT σ)) 1 _).1 0 9 = sT σ 9 from rfl) rfl (by omega) dX4_least_80 ?_
      refine rb_icmp_eq X (pc := 81) (tgt := 86) dX4_least_81 (by decide) (fun c81 => ?_) (fun c81 => ?_)
      · refine rb_iinc X (pc := 86) dX4_least_86 rfl (sp_inc _) (by decide) rfl rfl ?_
        refine rb_goto X (pc := 89) (tgt := 37) dX4_least_89 (by decide) ?_
        exact ih (i + 1) _ (by omega) (by omega) (fun n hn => by
          by_cases e : n = i
          · subst e; exact decide_eq_false (fun z => z c81)
          · exact hno n (by omega))
      · refine rb_iload_n X (pc := 84) dX4_least_84 rfl rfl ?_
        refine rb_iret (S := []) X (pc := 85) Y dX4_least_85 ?_
        have hk : k_least (sT σ) r = i := fa_first_eq (by omega) (decide_eq_true c81) hno
        exact pc_A hC (by simp [r_least, cR, er, hk, hm1, show i < 20 by omega])
set_option maxRecDepth 100000 in
set_option maxHeartbeats 1000000 in
theorem qX4_least {G : rb_G} {σ : Sg} {h : rb_H} (hS : okS σ) (hC : CI σ h)  (a : Int32) : rb_M G 3 yX4_least cX4_least 3 (some .int) [.ref (rb_ad G 8 0), .int a] (h) (PC h (r_least σ a)) := by
  refine rb_meth (L := [.ref (rb_ad G 8 0), .int a, .null]) (by decide) (Nat.le_of_ble_eq_true rfl) rfl (fun Z X Y => ?_)
  have X : rb_CX Z G cX4_least 3 RX4 3 := X
  obtain ⟨h, rfl⟩ : ∃ h0, h = tw h0 0 (sT σ) := ⟨h, (rb_st_self hC.1).symm⟩
  have hok := hS.1
  have hn4 := hok.1
  have hn10 := hok.2.1
  refine rb_aload_n X (pc := 0) dX4_least_0 rfl rfl ?_
  refine rb_iload_n X (pc := 1) dX4_least_1 rfl rfl ?_
  refine rc_callVi X (pc := 2) cvX4_isRumour mX4_93 rb_ob8 (qX4_isRumour _) (by decide) rfl rfl (Nat.le_of_ble_eq_true rfl) dX4_least_2 ?_
  refine rb_if_ne X (pc := 5) (tgt := 15) dX4_least_5 (by decide) (fun c5 => ?_) (fun c5 => ?_)
  · (try simp only [sp_b0, Classical.not_not] at c5)
    obtain ⟨r, hr, rfl⟩ := iR_of hok c5
    have er : ix (nI r) = r := nI_clamp (by omega)
    refine rb_aload_n X (pc := 15) dX4_least_15 rfl rfl ?_
    refine rc_getO (q := 0) X (pc := 16) fX4_10 rb_ob8 rfl dX4_least_16 ?_
    refine rc_getR X (pc := 19) fX4_108 (rb_obT (t := 0) (by decide)) rfl dX4_least_19 ?_
    refine rb_iload_n X (pc := 22) dX4_least_22 rfl rfl ?_
    refine rc_iald X (pc := 23) _ (rb_arT9 (t := 0) (by decide)) (rb_tj9 (t := 0)) rfl (by omega) dX4_least_23 ?_
    refine rb_iconst (v := (-1)) X (pc := 24) dX4_least_24 (by decide) ?_
    refine rb_icmp_ne X (pc := 25) (tgt := 35) dX4_least_25 (by decide) (fun c25 => ?_) (fun c25 => ?_)
    · obtain ⟨p, hp1, hp⟩ := sp_pl_ne (hok.2.2.1 r (by omega)).2.2.2.2 c25
      refine rb_iconst (v := 1) X (pc := 35) dX4_least_35 (by decide) ?_
      refine rb_istore_n X (pc := 36) dX4_least_36 rfl (by decide) rfl rfl ?_
      exact sp_go rfl (rb_st_self rfl).symm (lpX4_least_37 hS hC hr hp1 hp c5 X Y 21 0 _ (by omega) (by omega) (fun n hn => absurd hn (by omega)))
    · refine rb_aload_n X (pc := 28) dX4_least_28 rfl rfl ?_
      refine rb_ldc X (pc := 29) dX4_least_29 kX4_135 ?_
      refine rc_callVi X (pc := 31) cvX4_finding mX4_57 rb_ob8 (qX4_finding (i := 4) (by decide) (by decide)) (by decide) rfl rfl (Nat.le_of_ble_eq_true rfl) dX4_least_31 ?_
      refine rb_iret (S := []) X (pc := 34) Y dX4_least_34 ?_
      exact pc_f hC (by simp [r_least, c5, er, ff_4, show sT σ 9 r = -1 by simpa using c25])
  · (try simp only [sp_b0, Classical.not_not] at c5)
    refine rb_aload_n X (pc := 8) dX4_least_8 rfl rfl ?_
    refine rb_ldc X (pc := 9) dX4_least_9 kX4_56 ?_
    refine rc_callVi X (pc := 11) cvX4_finding mX4_57 rb_ob8 (qX4_finding (i := 0) (by decide) (by decide)) (by decide) rfl rfl (Nat.le_of_ble_eq_true rfl) dX4_least_11 ?_
    refine rb_iret (S := []) X (pc := 14) Y dX4_least_14 ?_
    first
    | exact pc_f hC (by simp [r_least, ff_0, *]; done)
    | exact pc_Af hC (by simp [r_least, ff_0, *]; done)
