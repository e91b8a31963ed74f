theorem w_fbs {σ : Sg} {s a : Int32} (h : ¬ w_sh σ s = 0) : w_fb σ s a = w_sh σ s := by
  obtain ⟨h1, h2⟩ := w_sh_no h
  rw [h2]
  unfold w_fb w_book
  unfold w_shN at h1 ⊢
  by_cases c1 : iS s = true
  · rw [if_pos c1] at h1
    by_cases c2 : sW σ (ix s) = 0
    · simp only [if_pos c1, if_pos c2]; rfl
    · rw [if_neg c2] at h1; omega
  · simp only [if_neg c1]; rfl
theorem w_fby {σ : Sg} {s a : Int32} (h : w_sh σ s = 0) : w_fb σ s a = if iH a = true then 0 else -1000000001 := by
  obtain ⟨c1, c2⟩ := w_sh_yes h
  unfold w_fb w_book
  by_cases c3 : iH a = true
  · simp only [if_pos c1, if_neg c2, if_pos c3]; rfl
  · simp only [if_pos c1, if_neg c2, if_neg c3]; rfl
set_option maxRecDepth 100000 in
set_option maxHeartbeats 1000000 in
theorem qX5_wrongBook {G : rb_G} {σ : Sg} {h : rb_H} (hM : MI σ h) (s a : Int32) : rb_M G 3 yX5_wrongBook cX5_wrongBook 4 (some .int) [.ref (rb_ad G 9 0), .int s, .int a] (h) (rb_F (some (.int (w_fb σ s a))) (h)) := by
  refine rb_meth (L := [.ref (rb_ad G 9 0), .int s, .int a, .null]) (by decide) (Nat.le_of_ble_eq_true rfl) rfl (fun Z X Y => ?_)
  have X : rb_CX Z G cX5_wrongBook 4 RX5 3 := X
  refine rb_aload_n X (pc := 0) dX5_wrongBook_0 rfl rfl ?_
  refine rb_iload_n X (pc := 1) dX5_wrongBook_1 rfl rfl ?_
  refine rc_callVi X (pc := 2) cvX5_wrongSheet mX5_318 rb_ob9 (qX5_wrongSheet hM _) (by decide) rfl rfl (Nat.le_of_ble_eq_true rfl) dX5_wrongBook_2 ?_
  refine rb_istore_n X (pc := 5) dX5_wrongBook_5 rfl (by decide) rfl rfl ?_
  refine rb_iload_n X (pc := 6) dX5_wrongBook_6 rfl rfl ?_
  refine rb_if_eq X (pc := 7) (tgt := 14) dX5_wrongBook_7 (by decide) (fun c7 => ?_) (fun c7 => ?_)
  · refine rb_iload_n X (pc := 14) dX5_wrongBook_14 rfl rfl ?_
    refine rc_callSi X (pc := 15) cvX5_isHouse mX5_67 (qX5_isHouse _) (by decide) rfl rfl (Nat.le_of_ble_eq_true rfl) dX5_wrongBook_15 ?_
    refine rb_if_eq X (pc := 18) (tgt := 25) dX5_wrongBook_18 (by decide) (fun c18 => ?_) (fun c18 => ?_)
    · (try simp only [sp_b0, Classical.not_not] at c18)
      refine rb_ldc X (pc := 25) dX5_wrongBook_25 kX5_45 ?_
      refine rb_iret (S := []) X (pc := 27) Y dX5_wrongBook_27 ?_
      refine ⟨?_, rfl⟩
      first
      | rw [w_fbs c7]
      | rw [w_fby c7, if_pos c18]
      | rw [w_fby c7, if_neg c18]
    · (try simp only [sp_b0, Classical.not_not] at c18)
      refine rb_iconst (v := 0) X (pc := 21) dX5_wrongBook_21 (by decide) ?_
      refine rb_goto X (pc := 22) (tgt := 27) dX5_wrongBook_22 (by decide) ?_
      refine rb_iret (S := []) X (pc := 27) Y dX5_wrongBook_27 ?_
      refine ⟨?_, rfl⟩
      first
      | rw [w_fbs c7]
      | rw [w_fby c7, if_pos c18]
      | rw [w_fby c7, if_neg c18]
  · refine rb_iload_n X (pc := 10) dX5_wrongBook_10 rfl rfl ?_
    refine rb_goto X (pc := 11) (tgt := 27) dX5_wrongBook_11 (by decide) ?_
    refine rb_iret (S := []) X (pc := 27) Y dX5_wrongBook_27 ?_
    refine ⟨?_, rfl⟩
    first
    | rw [w_fbs c7]
    | rw [w_fby c7, if_pos c18]
    | rw [w_fby c7, if_neg c18]
theorem ms_ul {h : rb_H} {T : rb_T} {i : Nat} {f : Nat → Int64} {v : Int64} : rb_ul (ms (rb_rowl h 9 14 f) T) 9 14 i v = ms (rb_rowl h 9 14 (va_up f i v)) T := by
  show ((ms h T).1, _) = ((ms h T).1, _)
  congr 1
  exact congrArg Prod.snd (rb_ul_rowl (h := h) (o := 9) (j := 14) (i := i) (f := f) (v := v))
theorem sp_bk_at {b : Int32} {T : rb_T} {q : Nat} {f : Nat → Int64} : ∀ n k, sp_bk b T q n f k = if k < n then sp_nar b (sp_days T k 1 q).toInt64 else f k
  | 0, k => by rw [if_neg (by omega)]; rfl
  | n + 1, k => by
    rw [sp_bk_s]
    simp only [va_up]
    by_cases e : k = n
    · rw [if_pos e, if_pos (by omega), e]
    · rw [if_neg e, sp_bk_at n k]
      by_cases e2 : k < n
      · rw [if_pos e2, if_pos (by omega)]
      · rw [if_neg e2, if_neg (by omega)]
set_option maxRecDepth 100000 in
set_option maxHeartbeats 1000000 in
theorem lpX5_book_24 {Z : rb_Z} {G : rb_G} {σ : Sg} {h : rb_H} (hS : okS σ) (hM : MI σ (ms h (sT σ))) {q a : Nat} {wr : Int32} (hq : q < 4) (ha : a < 8) (hZ : sZ σ q ≤ 40) (hw0 : h.1 9 12 q = sW σ q) (hw1 : h.1 9 13 q = nI (sZ σ q)) {p : Int32 × Sg} (hp : p = (nI (sZ σ q), wS σ (sW σ) (sZ σ) (va_up (sU σ) q (sp_bk (sW σ q) (sT σ) a (sZ σ q) (sU σ q))))) (X : rb_CX Z G cX5_book 5 RX5 7) (Y : rb_RT Z G (some .int) (PM (ms h (sT σ)) (p))) : ∀ fu : Nat, ∀ (i : Nat) (f : Nat → Int64), i ≤ sZ σ q → sZ σ q + 1 ≤ i + fu → (∀ s, s < 4 → ∀ k, k < 40 → f (40 * s + k) = if s = q ∧ k < i then sp_nar (sW σ q) (sp_days (sT σ) k 1 a).toInt64 else sU σ s k) → rb_WP Z G 5 24 [.ref (rb_ad G 9 0), .int (nI q), .int (nI a), .int wr, .int (nI i)] [] (ms (rb_rowl (mo h (sT σ)) 9 14 f) (sp_days (sT σ) i)) := by
  intro fu
  induction fu with
  | zero => intro i f hi hf hz; omega
  | succ fu ih =>
    intro i f hi hf hz
    have hki := sp_days_ok hS.1 i
    refine rb_iload X (pc := 24) dX5_book_24 rfl ?_
    refine rb_aload_n X (pc := 26) dX5_book_26 rfl rfl ?_
    refine rc_getR X (pc := 27) fX5_31 rb_ob9 rfl dX5_book_27 ?_
    refine rb_iload_n X (pc := 30) dX5_book_30 rfl rfl ?_
    refine rc_iald X (pc := 31) q rb_ar9_13 (show _ = h.1 9 13 from rfl) rfl hq dX5_book_31 ?_
    refine rb_icmp_ge X (pc := 32) (tgt := 73) dX5_book_32 (by decide) (fun c32 => ?_) (fun c32 => ?_)
    · rw [hw1] at c32
      have hi2 := (sp_geI (n := sZ σ q) rfl (by omega) (by omega)).mp c32
      have hie : i = sZ σ q := by omega
      refine rb_aload_n X (pc := 73) dX5_book_73 rfl rfl ?_
      refine rb_aload_n X (pc := 74) dX5_book_74 rfl rfl ?_
      refine rc_getR X (pc := 75) fX5_31 rb_ob9 rfl dX5_book_75 ?_
      refine rb_iload_n X (pc := 78) dX5_book_78 rfl rfl ?_
      refine rc_iald X (pc := 79) q rb_ar9_13 (show _ = h.1 9 13 from rfl) rfl hq dX5_book_79 ?_
      refine rc_callVi X (pc := 80) cvX5_takesBack mX5_187 rb_ob9 (qTb (show (rb_rowl (mo h (sT σ)) 9 14 f).1 9 3 = enc (sT σ) from (mo_3 : (mo h (sT σ)).1 9 3 = enc (sT σ)))) (by decide) rfl rfl (Nat.le_of_ble_eq_true rfl) dX5_book_80 ?_
      refine rb_iret (S := []) X (pc := 83) Y dX5_book_83 ?_
      rw [hw1]
      refine pm_g (MI_U (MI_A hM) _ (fun s hs k hk => ?_)) (ot_l (ot_r (ot_rl (ot_r ot_rf)))) hp
      rw [hz s hs k hk]
      simp only [va_up]
      by_cases e : s = q
      · subst e
        rw [if_pos rfl, sp_bk_at, hie]
        by_cases e2 : k < sZ σ s
        · rw [if_pos ⟨rfl, e2⟩, if_pos e2]
        · rw [if_neg (fun z => e2 z.2), if_neg e2]
      · rw [if_neg (fun z => e z.1), if_neg e]
    · rw [hw1] at c32
      have hi2 : i < sZ σ q := Nat.lt_of_not_le (fun z => c32 ((sp_geI (n := sZ σ q) rfl (by omega) (by omega)).mpr z))
      refine rb_aload_n X (pc := 35) dX5_book_35 rfl rfl ?_
      refine rc_getR X (pc := 36) fX5_34 rb_ob9 rfl dX5_book_36 ?_
      refine rb_bipush (v := 40) X (pc := 39) dX5_book_39 (by decide) ?_
      refine rb_iload_n X (pc := 41) dX5_book_41 rfl rfl ?_
      refine rb_imul X (pc := 42) dX5_book_42 ?_
      refine rb_iload X (pc := 43) dX5_book_43 rfl ?_
      refine rb_iadd X (pc := 45) dX5_book_45 ?_
      refine rb_aload_n X (pc := 46) dX5_book_46 rfl rfl ?_
      refine rc_getR X (pc := 47) fX5_28 rb_ob9 rfl dX5_book_47 ?_
      refine rb_iload_n X (pc := 50) dX5_book_50 rfl rfl ?_
      refine rc_iald X (pc := 51) q rb_ar9_12 (show _ = h.1 9 12 from rfl) rfl hq dX5_book_51 ?_
      refine rb_aload_n X (pc := 52) dX5_book_52 rfl rfl ?_
      refine rb_iload_n X (pc := 53) dX5_book_53 rfl rfl ?_
      refine rb_iconst (v := 1) X (pc := 54) dX5_book_54 (by decide) ?_
      refine rc_callVi X (pc := 55) cvX5_has mX5_84 rb_ob9 (qH1 (by omega)) (by decide) rfl rfl (Nat.le_of_ble_eq_true rfl) dX5_book_55 ?_
      refine rb_i2l X (pc := 58) dX5_book_58 ?_
      refine rc_callSl X (pc := 59) cvX5_narrowed mX5_321 (qX5_narrowed _ _) (by decide) rfl rfl (Nat.le_of_ble_eq_true rfl) dX5_book_59 ?_
      refine rc_last X (pc := 62) (40 * q + i) rb_ar9_14 ms_ul sp_40 (by omega) dX5_book_62 ?_
      refine rb_aload_n X (pc := 63) dX5_book_63 rfl rfl ?_
      refine rc_callVv X (pc := 64) cvX5_day mX5_163 rb_ob9 (qX5_day (T := sp_days (sT σ) i) hki) (by decide) rfl rfl (Nat.le_of_ble_eq_true rfl) dX5_book_64 ?_
      refine rb_iinc X (pc := 67) dX5_book_67 rfl (sp_inc _) (by decide) rfl rfl ?_
      refine rb_goto X (pc := 70) (tgt := 24) dX5_book_70 (by decide) ?_
      exact sp_go rfl rfl (ih (i + 1) _ (by omega) (by omega) (fun s hs k hk => by
        simp only [va_up, q40 hk (show i < 40 by omega)]
        by_cases e : s = q ∧ k = i
        · rw [if_pos e, if_pos (by omega), hw0, e.2]
        · rw [if_neg e, hz s hs k hk]
          by_cases e2 : s = q ∧ k < i
          · rw [if_pos e2, if_pos (by omega)]
          · rw [if_neg e2, if_neg (by omega)]))
set_option maxRecDepth 100000 in
set_option maxHeartbeats 1000000 in
theorem qX5_book {G : rb_G} {σ : Sg} {h : rb_H} (hS : okS σ) (hM : MI σ h)  (s a0 : Int32) : rb_M G 7 yX5_book cX5_book 5 (some .int) [.ref (rb_ad G 9 0), .int s, .int a0] (h) (PM h (r_book σ s a0)) := by
  refine rb_meth (L := [.ref (rb_ad G 9 0), .int s, .int a0, .null, .null]) (by decide) (Nat.le_of_ble_eq_true rfl) rfl (fun Z X Y => ?_)
  have X : rb_CX Z G cX5_book 5 RX5 7 := X
  obtain ⟨h, rfl⟩ : ∃ h0, h = ms h0 (sT σ) := ⟨h, (rb_row_self hM.1).symm⟩
  have hok := hS.1
  have hn4 := hok.1
  have hn10 := hok.2.1
  refine rb_aload_n X (pc := 0) dX5_book_0 rfl rfl ?_
  refine rb_iload_n X (pc := 1) dX5_book_1 rfl rfl ?_
  refine rb_iload_n X (pc := 2) dX5_book_2 rfl rfl ?_
  refine rc_callVi X (pc := 3) cvX5_wrongBook mX5_325 rb_ob9 (qX5_wrongBook hM _ _) (by decide) rfl rfl (Nat.le_of_ble_eq_true rfl) dX5_book_3 ?_
  refine rb_istore_n X (pc := 6) dX5_book_6 rfl (by decide) rfl rfl ?_
  refine rb_iload_n X (pc := 7) dX5_book_7 rfl rfl ?_
  refine rb_if_eq X (pc := 8) (tgt := 17) dX5_book_8 (by decide) (fun c8 => ?_) (fun c8 => ?_)
  · have hbk := w_fb_yes c8
    obtain ⟨k1, k2, k3⟩ := w_book_7 hbk
    obtain ⟨q, hq, rfl⟩ := iS_of k1
    obtain ⟨a, ha, rfl⟩ := iH_of k3
    have eq1 : ix (nI q) = q := nI_clamp (by omega)
    have ea : ix (nI a) = a := nI_clamp (by omega)
    have hZ := hS.2.2.2.2 q hq
    obtain ⟨hw0, hw1, hw2⟩ := hM.2.2.2.2.2.2 q hq
    refine rb_aload_n X (pc := 17) dX5_book_17 rfl rfl ?_
    refine rc_callVv X (pc := 18) cvX5_laysAside mX5_184 rb_ob9 qLa (by decide) rfl rfl (Nat.le_of_ble_eq_true rfl) dX5_book_18 ?_
    refine rb_iconst (v := 0) X (pc := 21) dX5_book_21 (by decide) ?_
    refine rb_istore X (pc := 22) dX5_book_22 (by decide) rfl rfl ?_
    exact sp_go rfl (show ms (mo h (sT σ)) (sT σ) = ms (rb_rowl (mo h (sT σ)) 9 14 ((mo h (sT σ)).2 9 14)) (sT σ) by rw [rb_rowl_self]) (lpX5_book_24 hS hM hq ha hZ hw0 hw1 (by rw [r_book, if_pos hbk, eq1, ea]) X Y (sZ σ q + 1) 0 (h.2 9 14) (by omega) (by omega) (fun s hs k hk => by rw [if_neg (by omega)]; exact (hM.2.2.2.2.2.2 s hs).2.2 k hk))
  · obtain ⟨i7, hfe⟩ := w_fb_no c8
    refine rb_aload_n X (pc := 11) dX5_book_11 rfl rfl ?_
    refine rb_iload_n X (pc := 12) dX5_book_12 rfl rfl ?_
    refine rc_callVi X (pc := 13) cvX5_finds mX5_74 rb_ob9 (qX5_finds (i := w_book σ s a0) i7 (by rw [hfe]; exact w_fi _ i7)) (by decide) rfl rfl (Nat.le_of_ble_eq_true rfl) dX5_book_13 ?_
    refine rb_iret (S := []) X (pc := 16) Y dX5_book_16 ?_
    exact pm_f hM (by rw [r_book, if_neg (by omega), ff, hfe])
set_option maxRecDepth 100000 in
set_option maxHeartbeats 1000000 in
theorem lpX5_isBook_2 {Z : rb_Z} {G : rb_G} {h : rb_H} {T : rb_T} {q a z : Nat} {u : Nat → Int64} (hok : sp_ok T) (hq : q < 4) (ha : a < 8) (hz : z ≤ 40) (hz1 : h.1 9 13 q = nI z) (hu : ∀ k, k < 40 → h.2 9 14 (40 * q + k) = u k) (X : rb_CX Z G cX5_isBook 4 RX5 7) (Y : rb_RT Z G (some .boolean) (fun r h2 => r = some (.int (if sp_ib u T a z = true then 1 else 0)) ∧ ∃ T2, h2 = ms h T2)) : ∀ fu : Nat, ∀ i : Nat, i ≤ z → z + 1 ≤ i + fu → sp_ib u T a i = true → rb_WP Z G 4 2 [.ref (rb_ad G 9 0), .int (nI q), .int (nI a), .int (nI i)] [] (ms h (sp_days T i)) := by
  intro fu
  induction fu with
  | zero => intro i hi hf hb; omega
  | succ fu ih =>
    intro i hi hf hb
    have hki := sp_days_ok hok i
    refine rb_iload_n X (pc := 2) dX5_isBook_2 rfl rfl ?_
    refine rb_aload_n X (pc := 3) dX5_isBook_3 rfl rfl ?_
    refine rc_getR X (pc := 4) fX5_31 rb_ob9 rfl dX5_isBook_4 ?_
    refine rb_iload_n X (pc := 7) dX5_isBook_7 rfl rfl ?_
    refine rc_iald X (pc := 8) q rb_ar9_13 (show _ = h.1 9 13 from rfl) rfl hq dX5_isBook_8 ?_
    refine rb_icmp_ge X (pc := 9) (tgt := 46) dX5_isBook_9 (by decide) (fun c9 => ?_) (fun c9 => ?_)
    · rw [hz1] at c9
      have hi2 := (sp_geI (n := z) rfl (by omega) (by omega)).mp c9
      obtain rfl : i = z := by omega
      refine rb_iconst (v := 1) X (pc := 46) dX5_isBook_46 (by decide) ?_
      refine rb_zret (S := []) X (pc := 47) Y dX5_isBook_47 rfl ?_
      exact ⟨by rw [hb]; rfl, _, rfl⟩
    · rw [hz1] at c9
      have hi2 : i < z := Nat.lt_of_not_le (fun w => c9 ((sp_geI (n := z) rfl (by omega) (by omega)).mpr w))
      refine rb_aload_n X (pc := 12) dX5_isBook_12 rfl rfl ?_
      refine rc_getR X (pc := 13) fX5_34 rb_ob9 rfl dX5_isBook_13 ?_
      refine rb_bipush (v := 40) X (pc := 16) dX5_isBook_16 (by decide) ?_
      refine rb_iload_n X (pc := 18) dX5_isBook_18 rfl rfl ?_
      refine rb_imul X (pc := 19) dX5_isBook_19 ?_
      refine rb_iload_n X (pc := 20) dX5_isBook_20 rfl rfl ?_
      refine rb_iadd X (pc := 21) dX5_isBook_21 ?_
      refine rc_lald X (pc := 22) (40 * q + i) rb_ar9_14 rfl sp_40 (by omega) dX5_isBook_22 ?_
      rw [show (ms h (sp_days T i)).2 9 14 (40 * q + i) = u i from hu i (by omega)]
      refine rb_aload_n X (pc := 23) dX5_isBook_23 rfl rfl ?_
      refine rb_iload_n X (pc := 24) dX5_isBook_24 rfl rfl ?_
      refine rb_iconst (v := 1) X (pc := 25) dX5_isBook_25 (by decide) ?_
      refine rc_callVi X (pc := 26) cvX5_has mX5_84 rb_ob9 (qH1 (by omega)) (by decide) rfl rfl (Nat.le_of_ble_eq_true rfl) dX5_isBook_26 ?_
      refine rb_i2l X (pc := 29) dX5_isBook_29 ?_
      refine rb_lcmp X (pc := 30) dX5_isBook_30 ?_
      refine rb_if_eq X (pc := 31) (tgt := 36) dX5_isBook_31 (by decide) (fun c31 => ?_) (fun c31 => ?_)
      · rw [lg_eq0] at c31
        refine rb_aload_n X (pc := 36) dX5_isBook_36 rfl rfl ?_
        refine rc_callVv X (pc := 37) cvX5_day mX5_163 rb_ob9 (qX5_day (T := sp_days T i) hki) (by decide) rfl rfl (Nat.le_of_ble_eq_true rfl) dX5_isBook_37 ?_
        refine rb_iinc X (pc := 40) dX5_isBook_40 rfl (sp_inc _) (by decide) rfl rfl ?_
        refine rb_goto X (pc := 43) (tgt := 2) dX5_isBook_43 (by decide) ?_
        exact sp_go rfl rfl (ih (i + 1) (by omega) (by omega) (by rw [sp_ib_s, hb]; simp [c31]))
      · rw [lg_eq0] at c31
        refine rb_iconst (v := 0) X (pc := 34) dX5_isBook_34 (by decide) ?_
        refine rb_zret (S := []) X (pc := 35) Y dX5_isBook_35 rfl ?_
        have e := sp_ib_no c31 (z - (i + 1))
        rw [show i + 1 + (z - (i + 1)) = z by omega] at e
        exact ⟨by rw [e]; rfl, _, rfl⟩
set_option maxRecDepth 100000 in
set_option maxHeartbeats 1000000 in
theorem qX5_isBook {G : rb_G} {h : rb_H} {T : rb_T} {q a z : Nat} {u : Nat → Int64} (hok : sp_ok T) (hq : q < 4) (ha : a < 8) (hz : z ≤ 40) (hz1 : h.1 9 13 q = nI z) (hu : ∀ k, k < 40 → h.2 9 14 (40 * q + k) = u k) : rb_M G 7 yX5_isBook cX5_isBook 4 (some .boolean) [.ref (rb_ad G 9 0), .int (nI q), .int (nI a)] (ms h T) (fun r h2 => r = some (.int (if sp_ib u T a z = true then 1 else 0)) ∧ ∃ T2, h2 = ms h T2) := by
  refine rb_meth (L := [.ref (rb_ad G 9 0), .int (nI q), .int (nI a), .null]) (by decide) (Nat.le_of_ble_eq_true rfl) rfl (fun Z X Y => ?_)
  have X : rb_CX Z G cX5_isBook 4 RX5 7 := X
  refine rb_iconst (v := 0) X (pc := 0) dX5_isBook_0 (by decide) ?_
  refine rb_istore_n X (pc := 1) dX5_isBook_1 rfl (by decide) rfl rfl ?_
  exact sp_go rfl rfl (lpX5_isBook_2 hok hq ha hz hz1 hu X Y (z + 1) 0 (by omega) (by omega) rfl)
def rdP (u : Nat → Int64) (T : rb_T) (a z : Nat) : Nat → Nat := fb_sm (fun j => if T 9 (j / 6) = nI a ∧ sp_ib u (u2 T 5 (j / 6) (nI (j % 6))) a z = true then 1 else 0)
theorem rdP_s {u : Nat → Int64} {T : rb_T} {a z j : Nat} : rdP u T a z (j + 1) = rdP u T a z j + (if T 9 (j / 6) = nI a ∧ sp_ib u (u2 T 5 (j / 6) (nI (j % 6))) a z = true then 1 else 0) := by unfold rdP; rw [fb_sm_succ]
theorem rdP_k {u : Nat → Int64} {T : rb_T} {a z r : Nat} : ∀ k, k ≤ 6 → rdP u T a z (6 * r + k) = rdP u T a z (6 * r) + (if T 9 r = nI a then sp_rdk u T a z r k else 0)
  | 0, _ => by
    have : sp_rdk u T a z r 0 = 0 := by unfold sp_rdk; rfl
    rw [this]
    simp
  | k + 1, h => by
    rw [show 6 * r + (k + 1) = (6 * r + k) + 1 from rfl, rdP_s, rdP_k k (by omega), show (6 * r + k) / 6 = r by omega, show (6 * r + k) % 6 = k by omega, sp_rdk_s]
    by_cases c1 : T 9 r = nI a
    · by_cases c2 : sp_ib u (u2 T 5 r (nI k)) a z = true
      · rw [if_pos c1, if_pos ⟨c1, c2⟩, if_pos c2, if_pos c1]; omega
      · rw [if_pos c1, if_neg (fun w => c2 w.2), if_neg c2, if_pos c1]; omega
    · rw [if_neg c1, if_neg (fun w => c1 w.1), if_neg c1]
theorem rdP_e {u : Nat → Int64} {T : rb_T} {a z : Nat} : ∀ n, rdP u T a z (6 * n) = sp_rd u T a z n
  | 0 => rfl
  | n + 1 => by rw [show 6 * (n + 1) = 6 * n + 6 by omega, rdP_k 6 (Nat.le_refl _), rdP_e n, sp_rd_s]
theorem th_bt {T : rb_T} {p : Int32} {r n : Nat} (hr : r < n) (hn : n ≤ 10) : bt (sp_those T p n) r = true ↔ T 9 r = p := by
  rw [those_mk, mk_bt (by omega) n (by omega)]
  simp [hr]
set_option maxRecDepth 100000 in
set_option maxHeartbeats 1000000 in
theorem lpX5_read_34 {Z : rb_Z} {G : rb_G} {σ : Sg} {h : rb_H} (hS : okS σ) (hM : MI σ (ms h (sT σ))) {q a : Nat} {wr : Int32} (hq : q < 4) (ha : a < 8) (hZ : sZ σ q ≤ 40) (hw1 : h.1 9 13 q = nI (sZ σ q)) (hw2 : ∀ k, k < 40 → h.2 9 14 (40 * q + k) = sU σ q k) {p : Int32 × Sg} (hp : p = (nI (rdP (sU σ q) (sT σ) a (sZ σ q) (6 * sp_n (sT σ))), σ)) (X : rb_CX Z G cX5_read 7 RX5 8) (Y : rb_RT Z G (some .int) (PM (ms h (sT σ)) (p))) : ∀ fu : Nat, ∀ (i : Nat), i ≤ 6 * sp_n (sT σ) → 6 * sp_n (sT σ) + 1 ≤ i + fu → rb_WP Z G 7 34 [.ref (rb_ad G 9 0), .int (nI q), .int (nI a), .int wr, .int (sp_those (sT σ) (nI a) (sp_n (sT σ))), .int (nI (rdP (sU σ q) (sT σ) a (sZ σ q) i)), .int (nI i)] [] (ms (mo h (sT σ)) (sT σ)) := by
  intro fu
  induction fu with
  | zero => intro i hi hf; omega
  | succ fu ih =>
    intro i hi hf
    have hok := hS.1
    have hn10 := hok.2.1
    refine rb_iload X (pc := 34) dX5_read_34 rfl ?_
    refine rb_bipush (v := 6) X (pc := 36) dX5_read_36 (by decide) ?_
    refine rb_aload_n X (pc := 38) dX5_read_38 rfl rfl ?_
    refine rc_getR X (pc := 39) fX5_7 rb_ob9 rfl dX5_read_39 ?_
    refine rb_iconst (v := 0) X (pc := 42) dX5_read_42 (by decide) ?_
    refine rc_ialdv X (pc := 43) 0 rb_ar9_0 (ms_0.trans hok.1) rfl (by decide) dX5_read_43 ?_
    refine rb_imul X (pc := 44) dX5_read_44 ?_
    rw [show (6 : Int32) * nI (sp_n (sT σ)) = nI (6 * sp_n (sT σ)) from pk_mul 6 _]
    refine rb_icmp_ge X (pc := 45) (tgt := 110) dX5_read_45 (by decide) (fun c45 => ?_) (fun c45 => ?_)
    · have hi2 := (sp_geI (n := 6 * sp_n (sT σ)) rfl (by omega) (by omega)).mp c45
      obtain rfl : i = 6 * sp_n (sT σ) := by omega
      refine rb_iload X (pc := 110) dX5_read_110 rfl ?_
      refine rb_iret (S := []) X (pc := 112) Y dX5_read_112 ?_
      exact pm_A hM hp
    · have hi2 : i < 6 * sp_n (sT σ) := Nat.lt_of_not_le (fun w => c45 ((sp_geI (n := 6 * sp_n (sT σ)) rfl (by omega) (by omega)).mpr w))
      have h6 : i / 6 < sp_n (sT σ) := by omega
      refine rb_iload X (pc := 48) dX5_read_48 rfl ?_
      refine rb_iload X (pc := 50) dX5_read_50 rfl ?_
      refine rb_bipush (v := 6) X (pc := 52) dX5_read_52 (by decide) ?_
      refine rb_idiv X (pc := 54) dX5_read_54 (by decide) ?_
      rw [show nI i / 6 = nI (i / 6) from pk_div (d := 6) (by omega) (by omega) (by omega)]
      refine rb_ishr X (pc := 55) dX5_read_55 ?_
      refine rb_iconst (v := 1) X (pc := 56) dX5_read_56 (by decide) ?_
      refine rb_iand X (pc := 57) dX5_read_57 ?_
      refine rb_iconst (v := 1) X (pc := 58) dX5_read_58 (by decide) ?_
      refine rb_icmp_ne X (pc := 59) (tgt := 104) dX5_read_59 (by decide) (fun c59 => ?_) (fun c59 => ?_)
      · have c9 : ¬ sT σ 9 (i / 6) = nI a := fun z => c59 ((sp_shr1 (by omega)).mpr ((th_bt h6 hn10).mpr z))
        refine rb_iinc X (pc := 104) dX5_read_104 rfl (sp_inc _) (by decide) rfl rfl ?_
        refine rb_goto X (pc := 107) (tgt := 34) dX5_read_107 (by decide) ?_
        first
        | exact sp_go (by rw [rdP_s, if_neg (fun z => c9 z.1)]; rfl) rfl (ih (i + 1) (by omega) (by omega))
        | exact sp_go (by rw [rdP_s, if_pos ⟨c9, c90⟩, nI_1]; rfl) rfl (ih (i + 1) (by omega) (by omega))
        | exact sp_go (by rw [rdP_s, if_neg (fun z => c90 z.2), Int32.add_zero]; rfl) rfl (ih (i + 1) (by omega) (by omega))
      · have c59 : ((sp_those (sT σ) (nI a) (sp_n (sT σ))) >>> (nI (i / 6) &&& 31)) &&& 1 = 1 := by simpa using c59
        have c9 : sT σ 9 (i / 6) = nI a := (th_bt h6 hn10).mp ((sp_shr1 (by omega)).mp c59)
        have hk5 := ok_u5 (i := i / 6) hok ⟨i % 6, by omega, rfl⟩
        refine rb_aload_n X (pc := 62) dX5_read_62 rfl rfl ?_
        refine rc_getR X (pc := 63) fX5_7 rb_ob9 rfl dX5_read_63 ?_
        refine rb_iload X (pc := 66) dX5_read_66 rfl ?_
        refine rb_bipush (v := 6) X (pc := 68) dX5_read_68 (by decide) ?_
        refine rb_idiv X (pc := 70) dX5_read_70 (by decide) ?_
        rw [show nI i / 6 = nI (i / 6) from pk_div (d := 6) (by omega) (by omega) (by omega)]
        refine rb_iconst (v := 0) X (pc := 71) dX5_read_71 (by decide) ?_
        refine rc_callSi X (pc := 72) cvX5_spotOf mX5_56 (qX5_spotOf (w := 0)) (by decide) rfl rfl (Nat.le_of_ble_eq_true rfl) dX5_read_72 ?_
        refine rb_iload X (pc := 75) dX5_read_75 rfl ?_
        refine rb_bipush (v := 6) X (pc := 77) dX5_read_77 (by decide) ?_
        refine rb_irem X (pc := 79) dX5_read_79 (by decide) ?_
        rw [show nI i - nI i / 6 * 6 = nI (i % 6) from pk_rem (d := 6) (by omega) (by omega) (by omega)]
        refine rc_iast X (pc := 80) _ rb_ar9_0 (ms_r0 (by omega)) rfl (by omega) dX5_read_80 ?_
        refine rb_aload_n X (pc := 81) dX5_read_81 rfl rfl ?_
        refine rb_iload X (pc := 82) dX5_read_82 rfl ?_
        refine rb_aload_n X (pc := 84) dX5_read_84 rfl rfl ?_
        refine rb_iload_n X (pc := 85) dX5_read_85 rfl rfl ?_
        refine rb_iload_n X (pc := 86) dX5_read_86 rfl rfl ?_
        refine rc_callV X (pc := 87) cvX5_isBook mX5_328 rb_ob9 (qX5_isBook (h := mo h (sT σ)) (z := sZ σ q) (u := sU σ q) hk5 hq ha hZ hw1 hw2) (by decide) rfl rfl (Nat.le_of_ble_eq_true rfl) dX5_read_87 (fun r_87 h_87 p_87 => ?_)
        obtain ⟨rfl, T2, rfl⟩ := p_87
        refine sp_goS (S' := [.int (if sp_ib (sU σ q) (u2 (sT σ) 5 (i / 6) (nI (i % 6))) a (sZ σ q) = true then 1 else 0), .int (nI (rdP (sU σ q) (sT σ) a (sZ σ q) i)), .ref (rb_ad G 9 0)]) rfl ?_
        refine rb_if_eq X (pc := 90) (tgt := 97) dX5_read_90 (by decide) (fun c90 => ?_) (fun c90 => ?_)
        · (try simp only [sp_b0, Classical.not_not] at c90)
          refine rb_iconst (v := 0) X (pc := 97) dX5_read_97 (by decide) ?_
          refine rb_iadd X (pc := 98) dX5_read_98 ?_
          refine rc_callVi X (pc := 99) cvX5_takesBack mX5_187 rb_ob9 (qTb mo_3) (by decide) rfl rfl (Nat.le_of_ble_eq_true rfl) dX5_read_99 ?_
          refine rb_istore X (pc := 102) dX5_read_102 (by decide) rfl rfl ?_
          refine rb_iinc X (pc := 104) dX5_read_104 rfl (sp_inc _) (by decide) rfl rfl ?_
          refine rb_goto X (pc := 107) (tgt := 34) dX5_read_107 (by decide) ?_
          first
          | exact sp_go (by rw [rdP_s, if_neg (fun z => c9 z.1)]; rfl) rfl (ih (i + 1) (by omega) (by omega))
          | exact sp_go (by rw [rdP_s, if_pos ⟨c9, c90⟩, nI_1]; rfl) rfl (ih (i + 1) (by omega) (by omega))
          | exact sp_go (by rw [rdP_s, if_neg (fun z => c90 z.2), Int32.add_zero]; rfl) rfl (ih (i + 1) (by omega) (by omega))
        · (try simp only [sp_b0, Classical.not_not] at c90)
          refine rb_iconst (v := 1) X (pc := 93) dX5_read_93 (by decide) ?_
          refine rb_goto X (pc := 94) (tgt := 98) dX5_read_94 (by decide) ?_
          refine rb_iadd X (pc := 98) dX5_read_98 ?_
          refine rc_callVi X (pc := 99) cvX5_takesBack mX5_187 rb_ob9 (qTb mo_3) (by decide) rfl rfl (Nat.le_of_ble_eq_true rfl) dX5_read_99 ?_
          refine rb_istore X (pc := 102) dX5_read_102 (by decide) rfl rfl ?_
          refine rb_iinc X (pc := 104) dX5_read_104 rfl (sp_inc _) (by decide) rfl rfl ?_
          refine rb_goto X (pc := 107) (tgt := 34) dX5_read_107 (by decide) ?_
          first
          | exact sp_go (by rw [rdP_s, if_neg (fun z => c9 z.1)]; rfl) rfl (ih (i + 1) (by omega) (by omega))
          | exact sp_go (by rw [rdP_s, if_pos ⟨c9, c90⟩, nI_1]; rfl) rfl (ih (i + 1) (by omega) (by omega))
          | exact sp_go (by rw [rdP_s, if_neg (fun z => c90 z.2), Int32.add_zero]; rfl) rfl (ih (i + 1) (by omega) (by omega))
set_option maxRecDepth 100000 in
set_option maxHeartbeats 1000000 in
theorem qX5_read {G : rb_G} {σ : Sg} {h : rb_H} (hS : okS σ) (hM : MI σ h)  (s a0 : Int32) : rb_M G 8 yX5_read cX5_read 7 (some .int) [.ref (rb_ad G 9 0), .int s, .int a0] (h) (PM h (r_read σ s a0)) := by
  refine rb_meth (L := [.ref (rb_ad G 9 0), .int s, .int a0, .null, .null, .null, .null]) (by decide) (Nat.le_of_ble_eq_true rfl) rfl (fun Z X Y => ?_)
  have X : rb_CX Z G cX5_read 7 RX5 8 := X
  obtain ⟨h, rfl⟩ : ∃ h0, h = ms h0 (sT σ) := ⟨h, (rb_row_self hM.1).symm⟩
  have hok := hS.1
  have hn4 := hok.1
  have hn10 := hok.2.1
  refine rb_aload_n X (pc := 0) dX5_read_0 rfl rfl ?_
  refine rb_iload_n X (pc := 1) dX5_read_1 rfl rfl ?_
  refine rb_iload_n X (pc := 2) dX5_read_2 rfl rfl ?_
  refine rc_callVi X (pc := 3) cvX5_wrongBook mX5_325 rb_ob9 (qX5_wrongBook hM _ _) (by decide) rfl rfl (Nat.le_of_ble_eq_true rfl) dX5_read_3 ?_
  refine rb_istore_n X (pc := 6) dX5_read_6 rfl (by decide) rfl rfl ?_
  refine rb_iload_n X (pc := 7) dX5_read_7 rfl rfl ?_
  refine rb_if_eq X (pc := 8) (tgt := 17) dX5_read_8 (by decide) (fun c8 => ?_) (fun c8 => ?_)
  · have hbk := w_fb_yes c8
    obtain ⟨k1, k2, k3⟩ := w_book_7 hbk
    obtain ⟨q, hq, rfl⟩ := iS_of k1
    obtain ⟨a, ha, rfl⟩ := iH_of k3
    have eq1 : ix (nI q) = q := nI_clamp (by omega)
    have ea : ix (nI a) = a := nI_clamp (by omega)
    have hZ := hS.2.2.2.2 q hq
    obtain ⟨hw0, hw1, hw2⟩ := hM.2.2.2.2.2.2 q hq
    refine rb_aload_n X (pc := 17) dX5_read_17 rfl rfl ?_
    refine rb_iload_n X (pc := 18) dX5_read_18 rfl rfl ?_
    refine rc_callVi X (pc := 19) cvX5_thoseAt mX5_87 rb_ob9 (qX5_thoseAt hn4 hn10 _) (by decide) rfl rfl (Nat.le_of_ble_eq_true rfl) dX5_read_19 ?_
    refine rb_istore X (pc := 22) dX5_read_22 (by decide) rfl rfl ?_
    refine rb_aload_n X (pc := 24) dX5_read_24 rfl rfl ?_
    refine rc_callVv X (pc := 25) cvX5_laysAside mX5_184 rb_ob9 qLa (by decide) rfl rfl (Nat.le_of_ble_eq_true rfl) dX5_read_25 ?_
    refine rb_iconst (v := 0) X (pc := 28) dX5_read_28 (by decide) ?_
    refine rb_istore X (pc := 29) dX5_read_29 (by decide) rfl rfl ?_
    refine rb_iconst (v := 0) X (pc := 31) dX5_read_31 (by decide) ?_
    refine rb_istore X (pc := 32) dX5_read_32 (by decide) rfl rfl ?_
    exact sp_go rfl rfl (lpX5_read_34 hS hM hq ha hZ hw1 hw2 (by rw [rdP_e, r_read, if_pos hbk, eq1, ea]) X Y (6 * sp_n (sT σ) + 1) 0 (by omega) (by omega))
  · obtain ⟨i7, hfe⟩ := w_fb_no c8
    refine rb_aload_n X (pc := 11) dX5_read_11 rfl rfl ?_
    refine rb_iload_n X (pc := 12) dX5_read_12 rfl rfl ?_
    refine rc_callVi X (pc := 13) cvX5_finds mX5_74 rb_ob9 (qX5_finds (i := w_book σ s a0) i7 (by rw [hfe]; exact w_fi _ i7)) (by decide) rfl rfl (Nat.le_of_ble_eq_true rfl) dX5_read_13 ?_
    refine rb_iret (S := []) X (pc := 16) Y dX5_read_16 ?_
    exact pm_f hM (by rw [r_read, if_neg (by omega), ff, hfe])
