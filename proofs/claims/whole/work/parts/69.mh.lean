theorem MI_L {σ : Sg} {h : rb_H} (hM : MI σ h) (n : Nat) : MI (wB σ (sB σ) n) (rb_u h 9 7 0 (nI n)) := by
  refine ⟨hM.1, hM.2.1, hM.2.2.1, hM.2.2.2.1, hM.2.2.2.2.1, ?_, hM.2.2.2.2.2.2⟩
  rw [rb_u_row, rb_row_same]; simp [va_up]; rfl
theorem MI_B {σ : Sg} {h : rb_H} (hM : MI σ h) (i : Nat) (b : Int32) : MI (wB σ (va_up (sB σ) i b) (sL σ)) (rb_u h 9 6 i b) := by
  refine ⟨hM.1, hM.2.1, hM.2.2.1, hM.2.2.2.1, ?_, hM.2.2.2.2.2.1, hM.2.2.2.2.2.2⟩
  rw [rb_u_row, rb_row_same, hM.2.2.2.2.1]; rfl
theorem MI_KQ {σ : Sg} {h : rb_H} {q : Int32} (hM : MI σ h) (K : rb_T) (hK : q = 1 → h.1 9 1 = enc K) : MI (wKQ σ K q) (rb_u h 9 5 0 q) := by
  refine ⟨hM.1, hK, ?_, hM.2.2.2.1, hM.2.2.2.2.1, hM.2.2.2.2.2.1, hM.2.2.2.2.2.2⟩
  rw [rb_u_row, rb_row_same]; simp [va_up]; rfl
theorem MI_img {σ : Sg} {h : rb_H} (hM : MI σ h) : MI (wKQ σ (sT σ) 1) (rb_u (rb_row h 9 1 (enc (sT σ))) 9 5 0 1) := by
  refine ⟨hM.1, fun _ => ?_, ?_, hM.2.2.2.1, hM.2.2.2.2.1, hM.2.2.2.2.2.1, hM.2.2.2.2.2.2⟩
  · show (rb_row h 9 1 (enc (sT σ))).1 9 1 = _; rw [rb_row_same]; rfl
  · rw [rb_u_row, rb_row_same]; simp [va_up]; rfl
theorem cpy_g {h : rb_H} {f : Nat → Int32} {j i : Nat} : rb_u (rb_row h 9 j (va_cpy f (h.1 9 j) 0 0 i)) 9 j i (f i) = rb_row h 9 j (va_cpy f (h.1 9 j) 0 0 (i + 1)) := by
  rw [rb_u_row, rb_row_same, rb_row_row]
  congr 1
  funext k
  simp only [va_up, va_cpy, Nat.zero_le, true_and, Nat.zero_add, Nat.sub_zero]
  by_cases e : k = i
  · subst e; simp
  · have : (k < i + 1) ↔ k < i := by omega
    simp [e, this]
theorem cpy_0 {f g : Nat → Int32} : va_cpy f g 0 0 0 = g := by funext k; simp [va_cpy]
theorem fd_m {b : Int32} {m : Nat} (hm : m < 4) : (b >>> (8 * nI m &&& 31)) &&& 255 = fdb b m := by
  have e8 : (8 : Int32) * nI m = nI (8 * m) := pk_mul 8 m
  unfold fdb
  rw [e8]
  apply b_ext
  intro i hi
  rw [b_and, b_and, b_255, b_sshr (8 * m) (by omega) b hi, b_ushr (8 * m) (by omega)]
  by_cases h8 : i < 8
  · rw [if_pos (by omega)]
  · simp [h8]
set_option maxRecDepth 100000 in
set_option maxHeartbeats 1000000 in
theorem lpX5_image_2 {Z : rb_Z} {G : rb_G} {σ : Sg} {h : rb_H} (hS : okS σ) (hM : MI σ (ms h (sT σ)))  (X : rb_CX Z G cX5_image 2 RX5 1) (Y : rb_RT Z G (some .int) (PM (ms h (sT σ)) (r_image σ))) : ∀ fu : Nat, ∀ i : Nat, i ≤ 77 → 78 ≤ i + fu → rb_WP Z G 2 2 [.ref (rb_ad G 9 0), .int (nI i)] [] (rb_row (ms h (sT σ)) 9 1 (va_cpy (enc (sT σ)) ((ms h (sT σ)).1 9 1) 0 0 i)) := by
  intro fu
  induction fu with
  | zero => intro i hi hf; omega
  | succ fu ih =>
    intro i hi hf
    refine rb_iload_n X (pc := 2) dX5_image_2 rfl rfl ?_
    refine rb_bipush (v := 77) X (pc := 3) dX5_image_3 (by decide) ?_
    refine rb_icmp_ge X (pc := 5) (tgt := 26) dX5_image_5 (by decide) (fun c5 => ?_) (fun c5 => ?_)
    · have hn2 := (sp_geI (n := 77) rfl (by omega) (by omega)).mp c5
      obtain rfl : i = 77 := by omega
      refine rb_rowC (g := enc (sT σ)) rb_ar9_1.1 rb_ar9_1.2 (fun k hk => by simp [va_cpy, hk]) ?_
      refine rb_aload_n X (pc := 26) dX5_image_26 rfl rfl ?_
      refine rb_iconst (v := 1) X (pc := 27) dX5_image_27 (by decide) ?_
      refine rc_put X (pc := 28) fX5_331 gX5_5 rb_ob9 rfl rfl rfl rfl dX5_image_28 ?_
      refine rb_iconst (v := 1) X (pc := 31) dX5_image_31 (by decide) ?_
      refine rb_iret (S := []) X (pc := 32) Y dX5_image_32 ?_
      exact pm_g (MI_img hM) (ot_u (ot_r ot_rf)) rfl
    · have hi2 : i < 77 := Nat.lt_of_not_le (fun z => c5 ((sp_geI (n := 77) rfl (by omega) (by omega)).mpr z))
      refine rb_aload_n X (pc := 8) dX5_image_8 rfl rfl ?_
      refine rc_getR X (pc := 9) fX5_13 rb_ob9 rfl dX5_image_9 ?_
      refine rb_iload_n X (pc := 12) dX5_image_12 rfl rfl ?_
      refine rb_aload_n X (pc := 13) dX5_image_13 rfl rfl ?_
      refine rc_getR X (pc := 14) fX5_7 rb_ob9 rfl dX5_image_14 ?_
      refine rb_iload_n X (pc := 17) dX5_image_17 rfl rfl ?_
      refine rc_ialdv X (pc := 18) i rb_ar9_0 (congrFun ((rb_row_ne (fun z => absurd z.2 (by decide))).trans ms_at) _) rfl (by omega) dX5_image_18 ?_
      refine rc_iast X (pc := 19) i rb_ar9_1 cpy_g rfl (by omega) dX5_image_19 ?_
      refine rb_iinc X (pc := 20) dX5_image_20 rfl (sp_inc _) (by decide) rfl rfl ?_
      refine rb_goto X (pc := 23) (tgt := 2) dX5_image_23 (by decide) ?_
      exact sp_go rfl rfl (ih (i + 1) (by omega) (by omega))
set_option maxRecDepth 100000 in
set_option maxHeartbeats 1000000 in
theorem qX5_image {G : rb_G} {σ : Sg} {h : rb_H} (hS : okS σ) (hM : MI σ h)  : rb_M G 1 yX5_image cX5_image 2 (some .int) [.ref (rb_ad G 9 0)] (h) (PM h (r_image σ )) := by
  refine rb_meth (L := [.ref (rb_ad G 9 0), .null]) (by decide) (Nat.le_of_ble_eq_true rfl) rfl (fun Z X Y => ?_)
  have X : rb_CX Z G cX5_image 2 RX5 1 := X
  obtain ⟨h, rfl⟩ : ∃ h0, h = ms h0 (sT σ) := ⟨h, (rb_row_self hM.1).symm⟩
  have hok := hS.1
  have hn4 := hok.1
  have hn10 := hok.2.1
  refine rb_iconst (v := 0) X (pc := 0) dX5_image_0 (by decide) ?_
  refine rb_istore_n X (pc := 1) dX5_image_1 rfl (by decide) rfl rfl ?_
  exact sp_go rfl (by rw [cpy_0, rb_row_self rfl]) (lpX5_image_2 hS hM X Y 78 0 (by omega) (by omega))
set_option maxRecDepth 100000 in
set_option maxHeartbeats 1000000 in
theorem lpX5_undo_16 {Z : rb_Z} {G : rb_G} {σ : Sg} {h : rb_H} (hS : okS σ) (hM : MI σ (ms h (sT σ))) (cq : ¬ sQ σ = 0) (hq1 : (ms h (sT σ)).1 9 1 = enc (sK σ)) (X : rb_CX Z G cX5_undo 2 RX5 1) (Y : rb_RT Z G (some .int) (PM (ms h (sT σ)) (r_undo σ))) : ∀ fu : Nat, ∀ i : Nat, i ≤ 77 → 78 ≤ i + fu → rb_WP Z G 2 16 [.ref (rb_ad G 9 0), .int (nI i)] [] (rb_row (ms h (sT σ)) 9 0 (va_cpy (enc (sK σ)) ((ms h (sT σ)).1 9 0) 0 0 i)) := by
  intro fu
  induction fu with
  | zero => intro i hi hf; omega
  | succ fu ih =>
    intro i hi hf
    refine rb_iload_n X (pc := 16) dX5_undo_16 rfl rfl ?_
    refine rb_bipush (v := 77) X (pc := 17) dX5_undo_17 (by decide) ?_
    refine rb_icmp_ge X (pc := 19) (tgt := 40) dX5_undo_19 (by decide) (fun c19 => ?_) (fun c19 => ?_)
    · have hn2 := (sp_geI (n := 77) rfl (by omega) (by omega)).mp c19
      obtain rfl : i = 77 := by omega
      refine rb_rowC (g := enc (sK σ)) rb_ar9_0.1 rb_ar9_0.2 (fun k hk => by simp [va_cpy, hk]) ?_
      refine rb_aload_n X (pc := 40) dX5_undo_40 rfl rfl ?_
      refine rc_getR X (pc := 41) fX5_7 rb_ob9 rfl dX5_undo_41 ?_
      refine rb_iconst (v := 0) X (pc := 44) dX5_undo_44 (by decide) ?_
      refine rc_ialdv X (pc := 45) 0 rb_ar9_0 (congrFun (rb_row_same (h := ms h (sT σ)) (f := enc (sK σ))) 0) rfl (by decide) dX5_undo_45 ?_
      refine rb_iret (S := []) X (pc := 46) Y dX5_undo_46 ?_
      have z := MI_T hM (sK σ)
      exact pm_g z (ot_r ot_rf) (by rw [r_undo, if_neg cq]; rfl)
    · have hi2 : i < 77 := Nat.lt_of_not_le (fun z => c19 ((sp_geI (n := 77) rfl (by omega) (by omega)).mpr z))
      refine rb_aload_n X (pc := 22) dX5_undo_22 rfl rfl ?_
      refine rc_getR X (pc := 23) fX5_7 rb_ob9 rfl dX5_undo_23 ?_
      refine rb_iload_n X (pc := 26) dX5_undo_26 rfl rfl ?_
      refine rb_aload_n X (pc := 27) dX5_undo_27 rfl rfl ?_
      refine rc_getR X (pc := 28) fX5_13 rb_ob9 rfl dX5_undo_28 ?_
      refine rb_iload_n X (pc := 31) dX5_undo_31 rfl rfl ?_
      refine rc_iald X (pc := 32) i rb_ar9_1 ((rb_row_ne (fun z => absurd z.2 (by decide))).trans hq1) rfl (by omega) dX5_undo_32 ?_
      refine rc_iast X (pc := 33) i rb_ar9_0 cpy_g rfl (by omega) dX5_undo_33 ?_
      refine rb_iinc X (pc := 34) dX5_undo_34 rfl (sp_inc _) (by decide) rfl rfl ?_
      refine rb_goto X (pc := 37) (tgt := 16) dX5_undo_37 (by decide) ?_
      exact sp_go rfl rfl (ih (i + 1) (by omega) (by omega))
set_option maxRecDepth 100000 in
set_option maxHeartbeats 1000000 in
theorem qX5_undo {G : rb_G} {σ : Sg} {h : rb_H} (hS : okS σ) (hM : MI σ h)  : rb_M G 1 yX5_undo cX5_undo 2 (some .int) [.ref (rb_ad G 9 0)] (h) (PM h (r_undo σ )) := by
  refine rb_meth (L := [.ref (rb_ad G 9 0), .null]) (by decide) (Nat.le_of_ble_eq_true rfl) rfl (fun Z X Y => ?_)
  have X : rb_CX Z G cX5_undo 2 RX5 1 := X
  obtain ⟨h, rfl⟩ : ∃ h0, h = ms h0 (sT σ) := ⟨h, (rb_row_self hM.1).symm⟩
  have hok := hS.1
  have hn4 := hok.1
  have hn10 := hok.2.1
  refine rb_aload_n X (pc := 0) dX5_undo_0 rfl rfl ?_
  refine rc_getI X (pc := 1) fX5_331 rb_ob9 rfl hM.2.2.1 dX5_undo_1 ?_
  refine rb_if_ne X (pc := 4) (tgt := 14) dX5_undo_4 (by decide) (fun c4 => ?_) (fun c4 => ?_)
  · have cq : sQ σ = 1 := hS.2.2.1.resolve_left c4
    refine rb_iconst (v := 0) X (pc := 14) dX5_undo_14 (by decide) ?_
    refine rb_istore_n X (pc := 15) dX5_undo_15 rfl (by decide) rfl rfl ?_
    exact sp_go rfl (by rw [cpy_0, rb_row_self rfl]) (lpX5_undo_16 hS hM c4 (hM.2.1 cq) X Y 78 0 (by omega) (by omega))
  · refine rb_aload_n X (pc := 7) dX5_undo_7 rfl rfl ?_
    refine rb_ldc X (pc := 8) dX5_undo_8 kX5_196 ?_
    refine rc_callVi X (pc := 10) cvX5_finds mX5_74 rb_ob9 (qX5_finds (i := 3) (by decide) (by decide)) (by decide) rfl rfl (Nat.le_of_ble_eq_true rfl) dX5_undo_10 ?_
    refine rb_iret (S := []) X (pc := 13) Y dX5_undo_13 ?_
    exact pm_f hM (by simp [r_undo, ff_3, show sQ σ = 0 by simpa using c4])
set_option maxRecDepth 100000 in
set_option maxHeartbeats 1000000 in
theorem qX5_tear {G : rb_G} {σ : Sg} {h : rb_H} (hS : okS σ) (hM : MI σ h)  : rb_M G 1 yX5_tear cX5_tear 2 (some .int) [.ref (rb_ad G 9 0)] (h) (PM h (r_tear σ )) := by
  refine rb_meth (L := [.ref (rb_ad G 9 0), .null]) (by decide) (Nat.le_of_ble_eq_true rfl) rfl (fun Z X Y => ?_)
  have X : rb_CX Z G cX5_tear 2 RX5 1 := X
  obtain ⟨h, rfl⟩ : ∃ h0, h = ms h0 (sT σ) := ⟨h, (rb_row_self hM.1).symm⟩
  have hok := hS.1
  have hn4 := hok.1
  have hn10 := hok.2.1
  refine rb_aload_n X (pc := 0) dX5_tear_0 rfl rfl ?_
  refine rc_getI X (pc := 1) fX5_331 rb_ob9 rfl hM.2.2.1 dX5_tear_1 ?_
  refine rb_if_eq X (pc := 4) (tgt := 11) dX5_tear_4 (by decide) (fun c4 => ?_) (fun c4 => ?_)
  · have eR : r_tear σ = (0, wKQ σ (sK σ) 0) := by rw [r_tear, if_pos c4]
    refine rb_iconst (v := 0) X (pc := 11) dX5_tear_11 (by decide) ?_
    refine rb_istore_n X (pc := 12) dX5_tear_12 rfl (by decide) rfl rfl ?_
    refine rb_aload_n X (pc := 13) dX5_tear_13 rfl rfl ?_
    refine rb_iconst (v := 0) X (pc := 14) dX5_tear_14 (by decide) ?_
    refine rc_put X (pc := 15) fX5_331 gX5_5 rb_ob9 rfl rfl rfl rfl dX5_tear_15 ?_
    refine rb_iload_n X (pc := 18) dX5_tear_18 rfl rfl ?_
    refine rb_iret (S := []) X (pc := 19) Y dX5_tear_19 ?_
    exact pm_g (MI_KQ hM (sK σ) (fun z => absurd z (by decide))) (ot_u ot_rf) eR
  · have eR : r_tear σ = (1, wKQ σ (sK σ) 0) := by rw [r_tear, if_neg c4]
    refine rb_iconst (v := 1) X (pc := 7) dX5_tear_7 (by decide) ?_
    refine rb_goto X (pc := 8) (tgt := 12) dX5_tear_8 (by decide) ?_
    refine rb_istore_n X (pc := 12) dX5_tear_12 rfl (by decide) rfl rfl ?_
    refine rb_aload_n X (pc := 13) dX5_tear_13 rfl rfl ?_
    refine rb_iconst (v := 0) X (pc := 14) dX5_tear_14 (by decide) ?_
    refine rc_put X (pc := 15) fX5_331 gX5_5 rb_ob9 rfl rfl rfl rfl dX5_tear_15 ?_
    refine rb_iload_n X (pc := 18) dX5_tear_18 rfl rfl ?_
    refine rb_iret (S := []) X (pc := 19) Y dX5_tear_19 ?_
    exact pm_g (MI_KQ hM (sK σ) (fun z => absurd z (by decide))) (ot_u ot_rf) eR
set_option maxRecDepth 100000 in
set_option maxHeartbeats 1000000 in
theorem qX5_wipe {G : rb_G} {σ : Sg} {h : rb_H} (hS : okS σ) (hM : MI σ h)  : rb_M G 1 yX5_wipe cX5_wipe 2 (some .int) [.ref (rb_ad G 9 0)] (h) (PM h (r_wipe σ )) := by
  refine rb_meth (L := [.ref (rb_ad G 9 0), .null]) (by decide) (Nat.le_of_ble_eq_true rfl) rfl (fun Z X Y => ?_)
  have X : rb_CX Z G cX5_wipe 2 RX5 1 := X
  obtain ⟨h, rfl⟩ : ∃ h0, h = ms h0 (sT σ) := ⟨h, (rb_row_self hM.1).symm⟩
  have hok := hS.1
  have hn4 := hok.1
  have hn10 := hok.2.1
  refine rb_aload_n X (pc := 0) dX5_wipe_0 rfl rfl ?_
  refine rc_getI X (pc := 1) fX5_208 rb_ob9 rfl hM.2.2.2.2.2.1 dX5_wipe_1 ?_
  refine rb_istore_n X (pc := 4) dX5_wipe_4 rfl (by decide) rfl rfl ?_
  refine rb_aload_n X (pc := 5) dX5_wipe_5 rfl rfl ?_
  refine rb_iconst (v := 0) X (pc := 6) dX5_wipe_6 (by decide) ?_
  refine rc_put X (pc := 7) fX5_208 gX5_7 rb_ob9 rfl rfl rfl rfl dX5_wipe_7 ?_
  refine rb_iload_n X (pc := 10) dX5_wipe_10 rfl rfl ?_
  refine rb_iret (S := []) X (pc := 11) Y dX5_wipe_11 ?_
  exact pm_g (MI_L hM 0) (ot_u ot_rf) rfl
theorem cn_sum {T : rb_T} (hok : sp_ok T) : ∀ n, n ≤ 10 → fb_sm (fun q => fb_ct (fun r => decide (T 9 r = nI q)) n) 8 + fb_ct (fun r => decide (T 9 r = -1)) n = n
  | 0, _ => rfl
  | n + 1, h => by
    have ih := cn_sum hok n (by omega)
    simp only [fb_ct_succ, decide_eq_true_eq]
    rw [fb_sm_add]
    rcases (hok.2.2.1 n (by omega)).2.2.2.2 with z | ⟨p, hp, z⟩
    · have e : fb_sm (fun q => if T 9 n = nI q then 1 else 0) 8 = 0 := by
        rw [z]
        have : fb_sm (fun q => if (-1 : Int32) = nI q then 1 else 0) 8 = fb_sm (fun _ => 0) 8 := fb_sm_cong (fun k hk => if_neg (sp_m1 (by omega)))
        rw [this]; rfl
      rw [e, if_pos z]; omega
    · have e : fb_sm (fun q => if T 9 n = nI q then 1 else 0) 8 = 1 := by
        have : fb_sm (fun q => if T 9 n = nI q then 1 else 0) 8 = fb_sm (fun q => if p = q then 1 else 0) 8 := fb_sm_cong (fun k hk => by
          rw [z]
          by_cases e : p = k
          · rw [if_pos e, if_pos (by rw [e])]
          · rw [if_neg e, if_neg (fun w => e ((nI_eq (by omega) (by omega)).mp w))])
        rw [this]
        rcases (show p = 0 ∨ p = 1 ∨ p = 2 ∨ p = 3 ∨ p = 4 ∨ p = 5 ∨ p = 6 ∨ p = 7 by omega) with rfl | rfl | rfl | rfl | rfl | rfl | rfl | rfl <;> rfl
      rw [e, if_neg (by rw [z]; exact fun w => sp_m1 (by omega) w.symm)]; omega
theorem sum_N {f : Nat → Int32} {g : Nat → Nat} : ∀ n, (∀ k, k < n → f k = nI (g k)) → sp_sum f n = nI (fb_sm g n)
  | 0, _ => rfl
  | n + 1, h => by
    have e : sp_sum f (n + 1) = sp_sum f n + f n := rfl
    rw [e, sum_N n (fun k hk => h k (by omega)), h n (by omega), nI_add, fb_sm_succ]
theorem cnt_2 {T : rb_T} (hok : sp_ok T) : T 4 0 - nI (fb_ct (fun r => decide (T 9 r = -1)) (sp_n T)) = sp_sum (sp_cn T) 8 := by
  have h1 := cn_sum hok (sp_n T) hok.2.1
  rw [sum_N (f := sp_cn T) (g := fun q => fb_ct (fun r => decide (T 9 r = nI q)) (sp_n T)) 8 (fun k hk => if_pos hk), hok.1, pk_sub (by omega)]
  congr 1
  omega
set_option maxRecDepth 100000 in
set_option maxHeartbeats 1000000 in
theorem qX5_count {G : rb_G} {σ : Sg} {h : rb_H} (hS : okS σ) (hM : MI σ h)  (w : Int32) : rb_M G 3 yX5_count cX5_count 2 (some .int) [.ref (rb_ad G 9 0), .int w] (h) (PM h (r_count σ w)) := by
  refine rb_meth (L := [.ref (rb_ad G 9 0), .int w]) (by decide) (Nat.le_of_ble_eq_true rfl) rfl (fun Z X Y => ?_)
  have X : rb_CX Z G cX5_count 2 RX5 3 := X
  obtain ⟨h, rfl⟩ : ∃ h0, h = ms h0 (sT σ) := ⟨h, (rb_row_self hM.1).symm⟩
  have hok := hS.1
  have hn4 := hok.1
  have hn10 := hok.2.1
  refine rb_iload_n X (pc := 0) dX5_count_0 rfl rfl ?_
  refine rc_tabC X (pc := 1) (v := 0) (i := 0) (tgt := 32) dX5_count_1 (by decide) (by decide) rfl (by decide) (fun c1 => ?_) (fun n1_0 => ?_)
  · refine rb_aload_n X (pc := 32) dX5_count_32 rfl rfl ?_
    refine rc_getR X (pc := 33) fX5_7 rb_ob9 rfl dX5_count_33 ?_
    refine rb_iconst (v := 0) X (pc := 36) dX5_count_36 (by decide) ?_
    refine rc_ialdv X (pc := 37) 0 rb_ar9_0 ms_0 rfl (by decide) dX5_count_37 ?_
    refine rb_iret (S := []) X (pc := 38) Y dX5_count_38 ?_
    exact pm_0 hM (by simp [r_count, *])
  refine rc_tabC X (pc := 1) (v := 1) (i := 1) (tgt := 39) dX5_count_1 (by decide) (by decide) rfl (by decide) (fun c1 => ?_) (fun n1_1 => ?_)
  · refine rb_aload_n X (pc := 39) dX5_count_39 rfl rfl ?_
    refine rc_getI X (pc := 40) fX5_208 rb_ob9 rfl hM.2.2.2.2.2.1 dX5_count_40 ?_
    refine rb_iret (S := []) X (pc := 43) Y dX5_count_43 ?_
    exact pm_0 hM (by simp [r_count, *])
  refine rc_tabC X (pc := 1) (v := 2) (i := 2) (tgt := 44) dX5_count_1 (by decide) (by decide) rfl (by decide) (fun c1 => ?_) (fun n1_2 => ?_)
  · refine rb_aload_n X (pc := 44) dX5_count_44 rfl rfl ?_
    refine rc_getR X (pc := 45) fX5_7 rb_ob9 rfl dX5_count_45 ?_
    refine rb_iconst (v := 0) X (pc := 48) dX5_count_48 (by decide) ?_
    refine rc_ialdv X (pc := 49) 0 rb_ar9_0 ms_0 rfl (by decide) dX5_count_49 ?_
    refine rb_aload_n X (pc := 50) dX5_count_50 rfl rfl ?_
    refine rb_iconst (v := (-1)) X (pc := 51) dX5_count_51 (by decide) ?_
    refine rc_callVi X (pc := 52) cvX5_thoseAt mX5_87 rb_ob9 (qX5_thoseAt hn4 hn10 _) (by decide) rfl rfl (Nat.le_of_ble_eq_true rfl) dX5_count_52 ?_
    refine rc_callSi X (pc := 55) cvX5_ones mX5_122 (qOt hn10) (by decide) rfl rfl (Nat.le_of_ble_eq_true rfl) dX5_count_55 ?_
    refine rb_isub X (pc := 58) dX5_count_58 ?_
    refine rb_iret (S := []) X (pc := 59) Y dX5_count_59 ?_
    rw [cnt_2 hok]
    exact pm_0 hM (by simp [r_count, *])
  refine rc_tabC X (pc := 1) (v := 3) (i := 3) (tgt := 60) dX5_count_1 (by decide) (by decide) rfl (by decide) (fun c1 => ?_) (fun n1_3 => ?_)
  · refine rb_aload_n X (pc := 60) dX5_count_60 rfl rfl ?_
    refine rc_callVi X (pc := 61) cvX5_bedsAll mX5_334 rb_ob9 qX5_bedsAll (by decide) rfl rfl (Nat.le_of_ble_eq_true rfl) dX5_count_61 ?_
    refine rb_iret (S := []) X (pc := 64) Y dX5_count_64 ?_
    exact pm_0 hM (by simp [r_count, *])
  refine rb_tabOut X (pc := 1) (tgt := 65) dX5_count_1 (by have z0 := lv_neT n1_0 (a := 0) rfl; have z1 := lv_neT n1_1 (a := 1) rfl; have z2 := lv_neT n1_2 (a := 2) rfl; have z3 := lv_neT n1_3 (a := 3) rfl; omega) (by decide) ?_
  refine rb_aload_n X (pc := 65) dX5_count_65 rfl rfl ?_
  refine rb_ldc X (pc := 66) dX5_count_66 kX5_45 ?_
  refine rc_callVi X (pc := 68) cvX5_finds mX5_74 rb_ob9 (qX5_finds (i := 0) (by decide) (by decide)) (by decide) rfl rfl (Nat.le_of_ble_eq_true rfl) dX5_count_68 ?_
  refine rb_iret (S := []) X (pc := 71) Y dX5_count_71 ?_
  exact pm_f hM (by simp [r_count, ff_0, *])
def stF (f : Nat → Int32) (w : Int32) : Nat → Int32 := sp_fold (fun k a => a + (if w < 0 ∨ nI k = w then f k else 0)) 0
theorem stF_s {f : Nat → Int32} {w : Int32} {k : Nat} : stF f w (k + 1) = stF f w k + (if w < 0 ∨ nI k = w then f k else 0) := by unfold stF; exact sp_fold_s
theorem stF_m {f : Nat → Int32} {w : Int32} (h : w < 0) : ∀ n, stF f w n = sp_sum f n
  | 0 => rfl
  | n + 1 => by
    have e : sp_sum f (n + 1) = sp_sum f n + f n := rfl
    rw [stF_s, stF_m h n, e, if_pos (Or.inl h)]
theorem stF_q {f : Nat → Int32} {q : Nat} (hq : q < 7) : ∀ n, n ≤ 7 → stF f (nI q) n = if q < n then f q else 0
  | 0, _ => rfl
  | n + 1, h => by
    rw [stF_s, stF_q hq n (by omega)]
    by_cases e : n = q
    · subst e
      rw [if_pos (Or.inr rfl), if_neg (Nat.lt_irrefl _), if_pos (Nat.lt_succ_self _), Int32.zero_add]
    · rw [if_neg (c := nI q < 0 ∨ nI n = nI q) (fun z => z.elim (fun w => nI_pos (by omega) w) (fun w => e ((nI_eq (by omega) (by omega)).mp w))), Int32.add_zero]
      by_cases l : q < n
      · rw [if_pos l, if_pos (by omega)]
      · rw [if_neg l, if_neg (by omega)]
theorem st_in {w : Int32} (h : -1 ≤ w ∧ w ≤ 6) : w = -1 ∨ ∃ q, q < 7 ∧ w = nI q := by
  have a := Int32.le_iff_toInt_le.mp h.1
  have c1 : (-1 : Int32).toInt = -1 := by decide
  by_cases h0 : 0 ≤ w
  · obtain ⟨q, h1, h2⟩ := sp_rngL (n := 6) (by decide) h0 h.2
    exact Or.inr ⟨q, by omega, h2⟩
  · have b : ¬ (0 : Int32).toInt ≤ w.toInt := fun z => h0 (Int32.le_iff_toInt_le.mpr z)
    have c0 : (0 : Int32).toInt = 0 := by decide
    exact Or.inl (Int32.toInt_inj.mp (by omega))
theorem st_e {σ : Sg} {w : Int32} (h : -1 ≤ w ∧ w ≤ 6) : r_status σ w = (stF (sF σ) w 7, σ) := by
  rcases st_in h with rfl | ⟨q, hq, rfl⟩
  · rw [r_status, if_pos rfl, stF_m (by decide)]
  · have eq1 : ix (nI q) = q := nI_clamp (by omega)
    rw [r_status, if_neg (fun z => sp_m1 (by omega) z.symm), if_pos ⟨nI_pos' (by omega), (nI_ltI (b := 7) (by omega) (by omega)).mpr hq⟩, eq1, stF_q hq 7 (Nat.le_refl _), if_pos hq]
theorem st_n {σ : Sg} {w : Int32} (h : ¬ (-1 ≤ w ∧ w ≤ 6)) : r_status σ w = ff σ 0 := by
  rw [r_status, if_neg (by rintro rfl; exact h (by decide)), if_neg]
  rintro ⟨a, b⟩
  exact h ⟨Int32.le_trans (by decide) a, (i_lt (n := 6) (by decide)).mpr b⟩
set_option maxRecDepth 100000 in
set_option maxHeartbeats 1000000 in
theorem lpX5_status_25 {Z : rb_Z} {G : rb_G} {σ : Sg} {h : rb_H} (hS : okS σ) (hM : MI σ (ms h (sT σ))) {w : Int32} (hw : -1 ≤ w ∧ w ≤ 6) (X : rb_CX Z G cX5_status 4 RX5 1) (Y : rb_RT Z G (some .int) (PM (ms h (sT σ)) (r_status σ w))) : ∀ fu : Nat, ∀ i : Nat, i ≤ 7 → 8 ≤ i + fu → rb_WP Z G 4 25 [.ref (rb_ad G 9 0), .int w, .int (stF (sF σ) w i), .int (nI i)] [] (ms h (sT σ)) := by
  intro fu
  induction fu with
  | zero => intro i hi hf; omega
  | succ fu ih =>
    intro i hi hf
    refine rb_iload_n X (pc := 25) dX5_status_25 rfl rfl ?_
    refine rb_bipush (v := 7) X (pc := 26) dX5_status_26 (by decide) ?_
    refine rb_icmp_ge X (pc := 28) (tgt := 59) dX5_status_28 (by decide) (fun c28 => ?_) (fun c28 => ?_)
    · have hi2 := (sp_geI (n := 7) rfl (by omega) (by omega)).mp c28
      obtain rfl : i = 7 := by omega
      refine rb_iload_n X (pc := 59) dX5_status_59 rfl rfl ?_
      refine rb_iret (S := []) X (pc := 60) Y dX5_status_60 ?_
      exact pm_0 hM (st_e hw)
    · have hi2 : i < 7 := Nat.lt_of_not_le (fun z => c28 ((sp_geI (n := 7) rfl (by omega) (by omega)).mpr z))
      refine rb_iload_n X (pc := 31) dX5_status_31 rfl rfl ?_
      refine rb_iload_n X (pc := 32) dX5_status_32 rfl rfl ?_
      refine rb_if_lt X (pc := 33) (tgt := 41) dX5_status_33 (by decide) (fun c33 => ?_) (fun c33 => ?_)
      · have eS : stF (sF σ) w (i + 1) = stF (sF σ) w i + sF σ i := by rw [stF_s, if_pos (Or.inl c33)]
        refine rb_aload_n X (pc := 41) dX5_status_41 rfl rfl ?_
        refine rc_getR X (pc := 42) fX5_22 rb_ob9 rfl dX5_status_42 ?_
        refine rb_iload_n X (pc := 45) dX5_status_45 rfl rfl ?_
        refine rc_iald X (pc := 46) i rb_ar9_4 hM.2.2.2.1 rfl (by omega) dX5_status_46 ?_
        refine rb_goto X (pc := 47) (tgt := 51) dX5_status_47 (by decide) ?_
        refine rb_iadd X (pc := 51) dX5_status_51 ?_
        refine rb_istore_n X (pc := 52) dX5_status_52 rfl (by decide) rfl rfl ?_
        refine rb_iinc X (pc := 53) dX5_status_53 rfl (sp_inc _) (by decide) rfl rfl ?_
        refine rb_goto X (pc := 56) (tgt := 25) dX5_status_56 (by decide) ?_
        exact sp_go (by rw [eS]; rfl) rfl (ih (i + 1) (by omega) (by omega))
      · refine rb_iload_n X (pc := 36) dX5_status_36 rfl rfl ?_
        refine rb_iload_n X (pc := 37) dX5_status_37 rfl rfl ?_
        refine rb_icmp_ne X (pc := 38) (tgt := 50) dX5_status_38 (by decide) (fun c38 => ?_) (fun c38 => ?_)
        · have eS : stF (sF σ) w (i + 1) = stF (sF σ) w i + 0 := by rw [stF_s, if_neg (fun z => z.elim c33 c38)]
          refine rb_iconst (v := 0) X (pc := 50) dX5_status_50 (by decide) ?_
          refine rb_iadd X (pc := 51) dX5_status_51 ?_
          refine rb_istore_n X (pc := 52) dX5_status_52 rfl (by decide) rfl rfl ?_
          refine rb_iinc X (pc := 53) dX5_status_53 rfl (sp_inc _) (by decide) rfl rfl ?_
          refine rb_goto X (pc := 56) (tgt := 25) dX5_status_56 (by decide) ?_
          exact sp_go (by rw [eS]; rfl) rfl (ih (i + 1) (by omega) (by omega))
        · have eS : stF (sF σ) w (i + 1) = stF (sF σ) w i + sF σ i := by rw [stF_s, if_pos (Or.inr (by simpa using c38))]
          refine rb_aload_n X (pc := 41) dX5_status_41 rfl rfl ?_
          refine rc_getR X (pc := 42) fX5_22 rb_ob9 rfl dX5_status_42 ?_
          refine rb_iload_n X (pc := 45) dX5_status_45 rfl rfl ?_
          refine rc_iald X (pc := 46) i rb_ar9_4 hM.2.2.2.1 rfl (by omega) dX5_status_46 ?_
          refine rb_goto X (pc := 47) (tgt := 51) dX5_status_47 (by decide) ?_
          refine rb_iadd X (pc := 51) dX5_status_51 ?_
          refine rb_istore_n X (pc := 52) dX5_status_52 rfl (by decide) rfl rfl ?_
          refine rb_iinc X (pc := 53) dX5_status_53 rfl (sp_inc _) (by decide) rfl rfl ?_
          refine rb_goto X (pc := 56) (tgt := 25) dX5_status_56 (by decide) ?_
          exact sp_go (by rw [eS]; rfl) rfl (ih (i + 1) (by omega) (by omega))
set_option maxRecDepth 100000 in
set_option maxHeartbeats 1000000 in
theorem qX5_status {G : rb_G} {σ : Sg} {h : rb_H} (hS : okS σ) (hM : MI σ h)  (w : Int32) : rb_M G 1 yX5_status cX5_status 4 (some .int) [.ref (rb_ad G 9 0), .int w] (h) (PM h (r_status σ w)) := by
  refine rb_meth (L := [.ref (rb_ad G 9 0), .int w, .null, .null]) (by decide) (Nat.le_of_ble_eq_true rfl) rfl (fun Z X Y => ?_)
  have X : rb_CX Z G cX5_status 4 RX5 1 := X
  obtain ⟨h, rfl⟩ : ∃ h0, h = ms h0 (sT σ) := ⟨h, (rb_row_self hM.1).symm⟩
  have hok := hS.1
  have hn4 := hok.1
  have hn10 := hok.2.1
  refine rb_iload_n X (pc := 0) dX5_status_0 rfl rfl ?_
  refine rb_i2l X (pc := 1) dX5_status_1 ?_
  refine rb_ldc2 X (pc := 2) dX5_status_2 kX5_337 ?_
  refine rb_ldc2 X (pc := 5) dX5_status_5 kX5_339 ?_
  refine rc_callSi X (pc := 8) cvX5_in mX5_48 (qJn (a := -1) (b := 6) (by decide) (by decide)) (by decide) rfl rfl (Nat.le_of_ble_eq_true rfl) dX5_status_8 ?_
  refine rb_if_ne X (pc := 11) (tgt := 21) dX5_status_11 (by decide) (fun c11 => ?_) (fun c11 => ?_)
  · (try simp only [sp_b0, Classical.not_not] at c11)
    refine rb_iconst (v := 0) X (pc := 21) dX5_status_21 (by decide) ?_
    refine rb_istore_n X (pc := 22) dX5_status_22 rfl (by decide) rfl rfl ?_
    refine rb_iconst (v := 0) X (pc := 23) dX5_status_23 (by decide) ?_
    refine rb_istore_n X (pc := 24) dX5_status_24 rfl (by decide) rfl rfl ?_
    exact sp_go rfl rfl (lpX5_status_25 hS hM c11 X Y 8 0 (by omega) (by omega))
  · (try simp only [sp_b0, Classical.not_not] at c11)
    refine rb_aload_n X (pc := 14) dX5_status_14 rfl rfl ?_
    refine rb_ldc X (pc := 15) dX5_status_15 kX5_45 ?_
    refine rc_callVi X (pc := 17) cvX5_finds mX5_74 rb_ob9 (qX5_finds (i := 0) (by decide) (by decide)) (by decide) rfl rfl (Nat.le_of_ble_eq_true rfl) dX5_status_17 ?_
    refine rb_iret (S := []) X (pc := 20) Y dX5_status_20 ?_
    exact pm_f hM ((st_n c11).trans ff_0)
set_option maxRecDepth 100000 in
set_option maxHeartbeats 1000000 in
theorem lpX5_feed_41 {Z : rb_Z} {G : rb_G} {σ : Sg} {h : rb_H} {b : Int32} {p : Int32 × Sg} {n0 : Int32} (X : rb_CX Z G cX5_feed 4 RX5 1) (Y : rb_RT Z G (some .int) (PM h p)) : ∀ fu : Nat, ∀ (m : Nat) (σ1 : Sg) (h1 : rb_H), m ≤ 4 → m + 1 ≤ fu → MI σ1 h1 → sL σ1 + m ≤ 120 → rb_ot h h1 → p = (nI (sL σ1 + m), wB σ1 (fdS b m (sB σ1) (sL σ1)) (sL σ1 + m)) → rb_WP Z G 4 41 [.ref (rb_ad G 9 0), .int b, .int n0, .int (nI m - 1)] [] h1 := by
  intro fu
  induction fu with
  | zero => intro m σ1 h1 hm hf hM hl ho hp; omega
  | succ fu ih =>
    intro m σ1 h1 hm hf hM hl ho hp
    refine rb_iload_n X (pc := 41) dX5_feed_41 rfl rfl ?_
    refine rb_if_lt X (pc := 42) (tgt := 80) dX5_feed_42 (by decide) (fun c42 => ?_) (fun c42 => ?_)
    · have hm0 : m = 0 := by
        rcases m with _ | m
        · rfl
        · rw [nI_pred] at c42; exact absurd c42 (nI_pos (by omega))
      subst hm0
      refine rb_aload_n X (pc := 80) dX5_feed_80 rfl rfl ?_
      refine rc_getI X (pc := 81) fX5_208 rb_ob9 rfl hM.2.2.2.2.2.1 dX5_feed_81 ?_
      refine rb_iret (S := []) X (pc := 84) Y dX5_feed_84 ?_
      exact pm_g hM ho (by rw [hp]; rfl)
    · obtain ⟨m2, rfl⟩ : ∃ m2, m = m2 + 1 := by
        rcases m with _ | m
        · exact absurd (by decide) c42
        · exact ⟨m, rfl⟩
      rw [nI_pred]
      refine rb_aload_n X (pc := 45) dX5_feed_45 rfl rfl ?_
      refine rc_getR X (pc := 46) fX5_25 rb_ob9 rfl dX5_feed_46 ?_
      refine rb_aload_n X (pc := 49) dX5_feed_49 rfl rfl ?_
      refine rc_getI X (pc := 50) fX5_208 rb_ob9 rfl hM.2.2.2.2.2.1 dX5_feed_50 ?_
      refine rb_iload_n X (pc := 53) dX5_feed_53 rfl rfl ?_
      refine rb_bipush (v := 8) X (pc := 54) dX5_feed_54 (by decide) ?_
      refine rb_iload_n X (pc := 56) dX5_feed_56 rfl rfl ?_
      refine rb_imul X (pc := 57) dX5_feed_57 ?_
      refine rb_ishr X (pc := 58) dX5_feed_58 ?_
      refine rb_sipush (v := 255) X (pc := 59) dX5_feed_59 (by decide) ?_
      refine rb_iand X (pc := 62) dX5_feed_62 ?_
      rw [fd_m (by omega)]
      refine rc_iast X (pc := 63) (sL σ1) rb_ar9_6 rfl rfl (by omega) dX5_feed_63 ?_
      refine rb_aload_n X (pc := 64) dX5_feed_64 rfl rfl ?_
      refine rb_dup X (pc := 65) dX5_feed_65 rfl ?_
      refine rc_getI X (pc := 66) fX5_208 rb_ob9 rfl (show (rb_u h1 9 6 (sL σ1) (fdb b m2)).1 9 7 0 = nI (sL σ1) from hM.2.2.2.2.2.1) dX5_feed_66 ?_
      refine rb_iconst (v := 1) X (pc := 69) dX5_feed_69 (by decide) ?_
      refine rb_iadd X (pc := 70) dX5_feed_70 ?_
      rw [nI_1]
      refine rc_put X (pc := 71) fX5_208 gX5_7 rb_ob9 rfl rfl rfl rfl dX5_feed_71 ?_
      refine rb_iinc X (pc := 74) dX5_feed_74 rfl (sp_dec _) (by decide) rfl rfl ?_
      refine rb_goto X (pc := 77) (tgt := 41) dX5_feed_77 (by decide) ?_
      exact sp_go rfl rfl (ih m2 (wB (wB σ1 (va_up (sB σ1) (sL σ1) (fdb b m2)) (sL σ1)) (va_up (sB σ1) (sL σ1) (fdb b m2)) (sL σ1 + 1)) _ (by omega) (by omega) (MI_L (MI_B hM (sL σ1) (fdb b m2)) (sL σ1 + 1)) (show sL σ1 + 1 + m2 ≤ 120 by omega) (ot_u (ot_u ho)) (by rw [hp]; show _ = (nI (sL σ1 + 1 + m2), wB σ1 (fdS b m2 (va_up (sB σ1) (sL σ1) (fdb b m2)) (sL σ1 + 1)) (sL σ1 + 1 + m2)); rw [show sL σ1 + 1 + m2 = sL σ1 + (m2 + 1) by omega]; rfl))
set_option maxRecDepth 100000 in
set_option maxHeartbeats 1000000 in
theorem qX5_feed {G : rb_G} {σ : Sg} {h : rb_H} (hS : okS σ) (hM : MI σ h)  (b n0 : Int32) : rb_M G 1 yX5_feed cX5_feed 4 (some .int) [.ref (rb_ad G 9 0), .int b, .int n0] (h) (PM h (r_feed σ b n0)) := by
  refine rb_meth (L := [.ref (rb_ad G 9 0), .int b, .int n0, .null]) (by decide) (Nat.le_of_ble_eq_true rfl) rfl (fun Z X Y => ?_)
  have X : rb_CX Z G cX5_feed 4 RX5 1 := X
  obtain ⟨h, rfl⟩ : ∃ h0, h = ms h0 (sT σ) := ⟨h, (rb_row_self hM.1).symm⟩
  have hok := hS.1
  have hn4 := hok.1
  have hn10 := hok.2.1
  refine rb_iload_n X (pc := 0) dX5_feed_0 rfl rfl ?_
  refine rb_i2l X (pc := 1) dX5_feed_1 ?_
  refine rb_lconst (v := 1) X (pc := 2) dX5_feed_2 (by decide) ?_
  refine rb_ldc2 X (pc := 3) dX5_feed_3 kX5_206 ?_
  refine rc_callSi X (pc := 6) cvX5_in mX5_48 (qJn (a := (1)) (b := (4)) rfl rfl) (by decide) rfl rfl (Nat.le_of_ble_eq_true rfl) dX5_feed_6 ?_
  refine rb_if_ne X (pc := 9) (tgt := 19) dX5_feed_9 (by decide) (fun c9 => ?_) (fun c9 => ?_)
  · (try simp only [sp_b0, Classical.not_not] at c9)
    have cv : iV n0 4 = true := iV_e.mp c9
    obtain ⟨n, hn1, hn2, rfl⟩ := iV_of (n := 4) (by decide) cv
    have en : ix (nI n) = n := nI_clamp (by omega)
    have hl := hS.2.2.2.1
    refine rb_aload_n X (pc := 19) dX5_feed_19 rfl rfl ?_
    refine rc_getI X (pc := 20) fX5_208 rb_ob9 rfl hM.2.2.2.2.2.1 dX5_feed_20 ?_
    refine rb_iload_n X (pc := 23) dX5_feed_23 rfl rfl ?_
    refine rb_iadd X (pc := 24) dX5_feed_24 ?_
    refine rb_bipush (v := 120) X (pc := 25) dX5_feed_25 (by decide) ?_
    refine rb_icmp_le X (pc := 27) (tgt := 37) dX5_feed_27 (by decide) (fun c27 => ?_) (fun c27 => ?_)
    · have c28b : ¬ 120 < sL σ + n := by
        rw [nI_add] at c27
        have := (nI_leI (b := 120) (by omega) (by omega)).mp c27
        omega
      refine rb_iload_n X (pc := 37) dX5_feed_37 rfl rfl ?_
      refine rb_iconst (v := 1) X (pc := 38) dX5_feed_38 (by decide) ?_
      refine rb_isub X (pc := 39) dX5_feed_39 ?_
      refine rb_istore_n X (pc := 40) dX5_feed_40 rfl (by decide) rfl rfl ?_
      exact sp_go rfl rfl (lpX5_feed_41 (σ := σ) X Y 5 n σ _ (by omega) (by omega) hM (by omega) ot_rf (by simp [r_feed, cv, en, c28b]))
    · have c28b : 120 < sL σ + n := by
        rw [nI_add] at c27
        rcases Nat.lt_or_ge 120 (sL σ + n) with z | z
        · exact z
        · exact absurd ((nI_leI (b := 120) (by omega) (by omega)).mpr z) c27
      refine rb_aload_n X (pc := 30) dX5_feed_30 rfl rfl ?_
      refine rb_ldc X (pc := 31) dX5_feed_31 kX5_102 ?_
      refine rc_callVi X (pc := 33) cvX5_finds mX5_74 rb_ob9 (qX5_finds (i := 1) (by decide) (by decide)) (by decide) rfl rfl (Nat.le_of_ble_eq_true rfl) dX5_feed_33 ?_
      refine rb_iret (S := []) X (pc := 36) Y dX5_feed_36 ?_
      exact pm_f hM (by simp [r_feed, cv, en, c28b, ff_1])
  · (try simp only [sp_b0, Classical.not_not] at c9)
    have cv : ¬ iV n0 4 = true := fun z => c9 (iV_e.mpr z)
    refine rb_aload_n X (pc := 12) dX5_feed_12 rfl rfl ?_
    refine rb_ldc X (pc := 13) dX5_feed_13 kX5_45 ?_
    refine rc_callVi X (pc := 15) cvX5_finds mX5_74 rb_ob9 (qX5_finds (i := 0) (by decide) (by decide)) (by decide) rfl rfl (Nat.le_of_ble_eq_true rfl) dX5_feed_15 ?_
    refine rb_iret (S := []) X (pc := 18) Y dX5_feed_18 ?_
    exact pm_f hM (by rw [r_feed, if_neg cv, ff_0])
