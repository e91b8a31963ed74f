theorem sp_goS {Z : rb_Z} {G : rb_G} {nL pc : Nat} {L S S' : List Value} {h : rb_H} (e : S = S') (k : rb_WP Z G nL pc L S' h) : rb_WP Z G nL pc L S h := by subst e; exact k
theorem w_book_le {σ : Sg} {s a : Int32} : w_book σ s a = 7 ∨ w_book σ s a < 7 := by
  unfold w_book
  by_cases h1 : iS s = true
  · rw [if_pos h1]
    by_cases h2 : sW σ (ix s) = 0
    · rw [if_pos h2]; exact Or.inr (by decide)
    · rw [if_neg h2]
      by_cases h3 : iH a = true
      · rw [if_pos h3]; exact Or.inl rfl
      · rw [if_neg h3]; exact Or.inr (by decide)
  · rw [if_neg h1]; exact Or.inr (by decide)
def w_fb (σ : Sg) (s a : Int32) : Int32 := if w_book σ s a = 7 then 0 else -1000000001 - nI (w_book σ s a)
set_option maxRecDepth 100000 in
set_option maxHeartbeats 1000000 in
theorem qX4_findingOfBook {G : rb_G} {σ : Sg} {h : rb_H} (hC : CI σ h) (s a : Int32) : rb_M G 1 yX4_findingOfBook cX4_findingOfBook 3 (some .int) [.ref (rb_ad G 8 0), .int s, .int a] (h) (rb_F (some (.int (w_fb σ s a))) (h)) := by
  refine rb_meth (L := [.ref (rb_ad G 8 0), .int s, .int a]) (by decide) (Nat.le_of_ble_eq_true rfl) rfl (fun Z X Y => ?_)
  have X : rb_CX Z G cX4_findingOfBook 3 RX4 1 := X
  refine rb_iload_n X (pc := 0) dX4_findingOfBook_0 rfl rfl ?_
  refine rc_callSi X (pc := 1) cvX4_isSheet mX4_201 (qX4_isSheet _) (by decide) rfl rfl (Nat.le_of_ble_eq_true rfl) dX4_findingOfBook_1 ?_
  refine rb_if_ne X (pc := 4) (tgt := 10) dX4_findingOfBook_4 (by decide) (fun c4 => ?_) (fun c4 => ?_)
  · (try simp only [sp_b0, Classical.not_not] at c4)
    obtain ⟨q, hq, rfl⟩ := iS_of c4
    have eq1 : ix (nI q) = q := nI_clamp (by omega)
    obtain ⟨hw0, hw1, hw2⟩ := hC.2.2.2.2.2.2 q hq
    refine rb_aload_n X (pc := 10) dX4_findingOfBook_10 rfl rfl ?_
    refine rc_getR X (pc := 11) fX4_35 rb_ob8 rfl dX4_findingOfBook_11 ?_
    refine rb_iload_n X (pc := 14) dX4_findingOfBook_14 rfl rfl ?_
    refine rb_aald X (pc := 15) _ rfl (by omega) dX4_findingOfBook_15 ?_
    refine rc_callVi X (pc := 16) cvX1_isMissing mX4_209 (rb_obS hq) (qX1_isMissing hq) (by decide) rfl rfl (Nat.le_of_ble_eq_true rfl) dX4_findingOfBook_16 ?_
    refine rb_if_eq X (pc := 19) (tgt := 25) dX4_findingOfBook_19 (by decide) (fun c19 => ?_) (fun c19 => ?_)
    · (try simp only [sp_b0, Classical.not_not] at c19)
      rw [hw0] at c19
      refine rb_iload_n X (pc := 25) dX4_findingOfBook_25 rfl rfl ?_
      refine rc_callSi X (pc := 26) cvX4_isHouse mX4_44 (qX4_isHouse _) (by decide) rfl rfl (Nat.le_of_ble_eq_true rfl) dX4_findingOfBook_26 ?_
      refine rb_if_eq X (pc := 29) (tgt := 36) dX4_findingOfBook_29 (by decide) (fun c29 => ?_) (fun c29 => ?_)
      · (try simp only [sp_b0, Classical.not_not] at c29)
        refine rb_ldc X (pc := 36) dX4_findingOfBook_36 kX4_56 ?_
        refine rb_iret (S := []) X (pc := 38) Y dX4_findingOfBook_38 ?_
        refine ⟨?_, rfl⟩
        first
        | (simp [w_fb, w_book, c4, eq1, c19, c29]; done)
        | (simp [w_fb, w_book, c4, eq1, c19, c29]; decide)
      · (try simp only [sp_b0, Classical.not_not] at c29)
        refine rb_iconst (v := 0) X (pc := 32) dX4_findingOfBook_32 (by decide) ?_
        refine rb_goto X (pc := 33) (tgt := 38) dX4_findingOfBook_33 (by decide) ?_
        refine rb_iret (S := []) X (pc := 38) Y dX4_findingOfBook_38 ?_
        refine ⟨?_, rfl⟩
        first
        | (simp [w_fb, w_book, c4, eq1, c19, c29]; done)
        | (simp [w_fb, w_book, c4, eq1, c19, c29]; decide)
    · (try simp only [sp_b0, Classical.not_not] at c19)
      rw [hw0] at c19
      refine rb_ldc X (pc := 22) dX4_findingOfBook_22 kX4_212 ?_
      refine rb_iret (S := []) X (pc := 24) Y dX4_findingOfBook_24 ?_
      exact ⟨by simp [w_fb, w_book, c4, eq1, c19]; decide, rfl⟩
  · (try simp only [sp_b0, Classical.not_not] at c4)
    refine rb_ldc X (pc := 7) dX4_findingOfBook_7 kX4_56 ?_
    refine rb_iret (S := []) X (pc := 9) Y dX4_findingOfBook_9 ?_
    exact ⟨by simp [w_fb, w_book, c4]; decide, rfl⟩
theorem w_fb_no {σ : Sg} {s a : Int32} (h : ¬ w_fb σ s a = 0) : w_book σ s a < 7 ∧ w_fb σ s a = -1000000001 - nI (w_book σ s a) := by
  unfold w_fb at h ⊢
  by_cases e : w_book σ s a = 7
  · simp [e] at h
  · exact ⟨w_book_le.resolve_left e, if_neg e⟩
theorem w_fb_yes {σ : Sg} {s a : Int32} (h : w_fb σ s a = 0) : w_book σ s a = 7 := by
  unfold w_fb at h
  by_cases e : w_book σ s a = 7
  · exact e
  · rw [if_neg e] at h
    have h7 := w_book_le.resolve_left e
    generalize w_book σ s a = i at h h7
    exact absurd h ((by decide : ∀ i, i < 7 → ¬ (-1000000001 : Int32) - nI i = 0) i h7)
theorem w_fi : ∀ i, i < 7 → (-1000000001 : Int32) - (-1000000001 - nI i) = nI i := by decide
theorem w_book_7 {σ : Sg} {s a : Int32} (h : w_book σ s a = 7) : iS s = true ∧ ¬ sW σ (ix s) = 0 ∧ iH a = true := by
  unfold w_book at h
  by_cases h1 : iS s = true
  · rw [if_pos h1] at h
    by_cases h2 : sW σ (ix s) = 0
    · rw [if_pos h2] at h; cases h
    · rw [if_neg h2] at h
      by_cases h3 : iH a = true
      · exact ⟨h1, h2, h3⟩
      · rw [if_neg h3] at h; cases h
  · rw [if_neg h1] at h; cases h
theorem sp_bk_s {b : Int32} {T : rb_T} {q n : Nat} {f : Nat → Int64} : sp_bk b T q (n + 1) f = va_up (sp_bk b T q n f) n (sp_nar b (sp_days T n 1 q).toInt64) := rfl
theorem sp_wS {σ : Sg} {q : Nat} {g g' : Nat → Int64} : wS (wS σ (sW σ) (sZ σ) (va_up (sU σ) q g)) (sW (wS σ (sW σ) (sZ σ) (va_up (sU σ) q g))) (sZ (wS σ (sW σ) (sZ σ) (va_up (sU σ) q g))) (va_up (sU (wS σ (sW σ) (sZ σ) (va_up (sU σ) q g))) q g') = wS σ (sW σ) (sZ σ) (va_up (sU σ) q g') := by
  have e : va_up (va_up (sU σ) q g) q g' = va_up (sU σ) q g' := by funext x; simp only [va_up]; split <;> rfl
  show wS σ (sW σ) (sZ σ) (va_up (va_up (sU σ) q g) q g') = _
  rw [e]
theorem sp_wS0 {σ : Sg} {q : Nat} : wS σ (sW σ) (sZ σ) (va_up (sU σ) q (sU σ q)) = σ := by
  have e : va_up (sU σ) q (sU σ q) = sU σ := by
    funext x
    simp only [va_up]
    split
    · rename_i z; rw [z]
    · rfl
  rw [e]; rfl
set_option maxRecDepth 100000 in
set_option maxHeartbeats 1000000 in
theorem lpX4_book_39 {Z : rb_Z} {G : rb_G} {σ : Sg} {h : rb_H} (hS : okS σ) {q a : Nat} (hq : q < 4) (ha : a < 8) {wr : Int32} {p : Int32 × Sg} (hp : p = (nI (sZ σ q), wS σ (sW σ) (sZ σ) (va_up (sU σ) q (sp_bk (sW σ q) (sT σ) a (sZ σ q) (sU σ q))))) (X : rb_CX Z G cX4_book 6 RX4 6) (Y : rb_RT Z G (some .int) (PC h p)) : ∀ fu : Nat, ∀ (i : Nat) (h1 : rb_H), i ≤ sZ σ q → sZ σ q + 1 ≤ i + fu → CI (wS σ (sW σ) (sZ σ) (va_up (sU σ) q (sp_bk (sW σ q) (sT σ) a i (sU σ q)))) h1 → h1.1 1 = wl (sp_days (sT σ) i) → h1.1 9 = h.1 9 → h1.2 9 = h.2 9 → rb_WP Z G 6 39 [.ref (rb_ad G 8 0), .int (nI q), .int (nI a), .int wr, .ref (rb_ad G (4 + q) 0), .int (nI i)] [] h1 := by
  intro fu
  induction fu with
  | zero => intro i h1 hi hf hC hA e1 e2; omega
  | succ fu ih =>
    intro i h1 hi hf hC hA e1 e2
    have hZ := hS.2.2.2.2 q hq
    obtain ⟨hw0, hw1, hw2⟩ := hC.2.2.2.2.2.2 q hq
    have hki := sp_days_ok hS.1 i
    refine rb_iload X (pc := 39) dX4_book_39 rfl ?_
    refine rb_aload X (pc := 41) dX4_book_41 rfl ?_
    refine rc_getI X (pc := 43) fX4_208 (rb_obS hq) rfl hw1 dX4_book_43 ?_
    refine rb_icmp_ge X (pc := 46) (tgt := 79) dX4_book_46 (by decide) (fun c46 => ?_) (fun c46 => ?_)
    · have hi2 := (sp_geI (n := sZ σ q) rfl (by omega) (by omega)).mp c46
      have hie : i = sZ σ q := by omega
      refine rb_aload X (pc := 79) dX4_book_79 rfl ?_
      refine rc_getI X (pc := 81) fX4_208 (rb_obS hq) rfl hw1 dX4_book_81 ?_
      refine rb_iret (S := []) X (pc := 84) Y dX4_book_84 ?_
      refine pc_g hC e1 e2 (by rw [hp, hie]; rfl)
    · have hi2 : i < sZ σ q := Nat.lt_of_not_le (fun z => c46 ((sp_geI (n := sZ σ q) rfl (by omega) (by omega)).mpr z))
      refine rb_aload X (pc := 49) dX4_book_49 rfl ?_
      refine rb_iload X (pc := 51) dX4_book_51 rfl ?_
      refine rb_aload_n X (pc := 53) dX4_book_53 rfl rfl ?_
      refine rc_getO (q := 1) X (pc := 54) fX4_16 rb_ob8 rfl dX4_book_54 ?_
      refine rc_getR X (pc := 57) fX4_63 (rb_obT (t := 1) (by decide)) rfl dX4_book_57 ?_
      refine rb_iload_n X (pc := 60) dX4_book_60 rfl rfl ?_
      refine rc_iald X (pc := 61) _ (rb_arT1 (t := 1) (by decide)) (show h1.1 1 1 = sp_days (sT σ) i 1 from congrFun hA 1) rfl (by omega) dX4_book_61 ?_
      refine rb_i2l X (pc := 62) dX4_book_62 ?_
      refine rc_callVv X (pc := 63) cvX1_put mX4_217 (rb_obS hq) (qX1_put hq (by omega)) (by decide) rfl rfl (Nat.le_of_ble_eq_true rfl) dX4_book_63 ?_
      refine sp_go rfl (rb_st_self (h := rb_ul h1 (4 + q) 2 i _) (o := 1) (M := wl (sp_days (sT σ) i)) (show (rb_ul h1 (4 + q) 2 i _).1 1 = _ from hA)).symm ?_
      refine rb_aload_n X (pc := 66) dX4_book_66 rfl rfl ?_
      refine rc_getO (q := 1) X (pc := 67) fX4_16 rb_ob8 rfl dX4_book_67 ?_
      refine rc_callVv X (pc := 70) cvX3_passDay mX4_181 (rb_obT (t := 1) (by decide)) (qX3_passDay (t := 1) (by decide) (T := sp_days (sT σ) i) hki) (by decide) rfl rfl (Nat.le_of_ble_eq_true rfl) dX4_book_70 ?_
      refine rb_iinc X (pc := 73) dX4_book_73 rfl (sp_inc _) (by decide) rfl rfl ?_
      refine rb_goto X (pc := 76) (tgt := 39) dX4_book_76 (by decide) ?_
      refine ih (i + 1) _ (by omega) (by omega) ?_ rfl ?_ ?_
      · have z := CI_A (CI_U hC hq (va_up (sp_bk (sW σ q) (sT σ) a i (sU σ q)) i (sp_nar (sW σ q) (sp_days (sT σ) i 1 a).toInt64))) (wl (sp_day (sp_days (sT σ) i)))
        rw [sp_wS, ← sp_bk_s] at z
        have e7 : h1.2 (4 + q) 2 = sp_bk (sW σ q) (sT σ) a i (sU σ q) := by rw [hw2]; simp [sU, wS, va_up]
        have e8 : h1.1 (4 + q) 0 0 = sW σ q := hw0
        show CI _ (rb_st (rb_ul h1 (4 + q) 2 i (sp_nar (h1.1 (4 + q) 0 0) _)) 1 _)
        rw [rb_ul_row, e7, e8, ← sp_bk_s]
        exact z
      · exact e1
      · show (rb_ul h1 (4 + q) 2 i _).2 9 = _
        rw [rb_ul_row, rb_rowl_o (by omega)]; exact e2
set_option maxRecDepth 100000 in
set_option maxHeartbeats 1000000 in
theorem qX4_book {G : rb_G} {σ : Sg} {h : rb_H} (hS : okS σ) (hC : CI σ h)  (s a : Int32) : rb_M G 6 yX4_book cX4_book 6 (some .int) [.ref (rb_ad G 8 0), .int s, .int a] (h) (PC h (r_book σ s a)) := by
  refine rb_meth (L := [.ref (rb_ad G 8 0), .int s, .int a, .null, .null, .null]) (by decide) (Nat.le_of_ble_eq_true rfl) rfl (fun Z X Y => ?_)
  have X : rb_CX Z G cX4_book 6 RX4 6 := X
  obtain ⟨h, rfl⟩ : ∃ h0, h = tw h0 0 (sT σ) := ⟨h, (rb_st_self hC.1).symm⟩
  have hok := hS.1
  have hn4 := hok.1
  have hn10 := hok.2.1
  refine rb_aload_n X (pc := 0) dX4_book_0 rfl rfl ?_
  refine rb_iload_n X (pc := 1) dX4_book_1 rfl rfl ?_
  refine rb_iload_n X (pc := 2) dX4_book_2 rfl rfl ?_
  refine rc_callVi X (pc := 3) cvX4_findingOfBook mX4_235 rb_ob8 (qX4_findingOfBook hC _ _) (by decide) rfl rfl (Nat.le_of_ble_eq_true rfl) dX4_book_3 ?_
  refine rb_istore_n X (pc := 6) dX4_book_6 rfl (by decide) rfl rfl ?_
  refine rb_iload_n X (pc := 7) dX4_book_7 rfl rfl ?_
  refine rb_if_eq X (pc := 8) (tgt := 17) dX4_book_8 (by decide) (fun c8 => ?_) (fun c8 => ?_)
  · have hbk := w_fb_yes c8
    obtain ⟨k1, k2, k3⟩ := w_book_7 hbk
    obtain ⟨q, hq, rfl⟩ := iS_of k1
    obtain ⟨a, ha, rfl⟩ := iH_of k3
    have eq1 : ix (nI q) = q := nI_clamp (by omega)
    have ea : ix (nI a) = a := nI_clamp (by omega)
    have hZ := hS.2.2.2.2 q hq
    obtain ⟨hw0, hw1, hw2⟩ := hC.2.2.2.2.2.2 q hq
    refine rb_aload_n X (pc := 17) dX4_book_17 rfl rfl ?_
    refine rc_getR X (pc := 18) fX4_35 rb_ob8 rfl dX4_book_18 ?_
    refine rb_iload_n X (pc := 21) dX4_book_21 rfl rfl ?_
    refine rb_aald X (pc := 22) _ rfl (by omega) dX4_book_22 ?_
    refine rb_astore X (pc := 23) dX4_book_23 (by decide) rfl rfl ?_
    refine rb_aload_n X (pc := 25) dX4_book_25 rfl rfl ?_
    refine rc_getO (q := 1) X (pc := 26) fX4_16 rb_ob8 rfl dX4_book_26 ?_
    refine rb_aload_n X (pc := 29) dX4_book_29 rfl rfl ?_
    refine rc_getO (q := 0) X (pc := 30) fX4_10 rb_ob8 rfl dX4_book_30 ?_
    refine rc_callVv X (pc := 33) cvX3_becomes mX4_177 (rb_obT (t := 1) (by decide)) (qX3_becomes (t := 1) (t2 := 0) (by decide) (by decide) (by decide) (M2 := wl (sT σ)) rfl) (by decide) rfl rfl (Nat.le_of_ble_eq_true rfl) dX4_book_33 ?_
    refine rb_iconst (v := 0) X (pc := 36) dX4_book_36 (by decide) ?_
    refine rb_istore X (pc := 37) dX4_book_37 (by decide) rfl rfl ?_
    exact sp_go rfl rfl (lpX4_book_39 hS hq ha (by rw [r_book, if_pos hbk, eq1, ea]) X Y (sZ σ q + 1) 0 _ (by omega) (by omega) (by show CI (wS σ (sW σ) (sZ σ) (va_up (sU σ) q (sU σ q))) _; rw [sp_wS0]; exact CI_A hC _) rfl rfl rfl)
  · obtain ⟨i7, hfe⟩ := w_fb_no c8
    refine rb_aload_n X (pc := 11) dX4_book_11 rfl rfl ?_
    refine rb_iload_n X (pc := 12) dX4_book_12 rfl rfl ?_
    refine rc_callVi X (pc := 13) cvX4_finding mX4_57 rb_ob8 (qX4_finding (i := w_book σ s a) i7 (by rw [hfe]; exact w_fi _ i7)) (by decide) rfl rfl (Nat.le_of_ble_eq_true rfl) dX4_book_13 ?_
    refine rb_iret (S := []) X (pc := 16) Y dX4_book_16 ?_
    exact pc_f hC (by rw [r_book, if_neg (by omega), ff, hfe])
theorem sp_ib_s {u : Nat → Int64} {T : rb_T} {q n : Nat} : sp_ib u T q (n + 1) = (sp_ib u T q n && decide (u n = (sp_days T n 1 q).toInt64)) := rfl
theorem sp_ib_no {u : Nat → Int64} {T : rb_T} {q i : Nat} (h : ¬ u i = (sp_days T i 1 q).toInt64) : ∀ d, sp_ib u T q (i + 1 + d) = false
  | 0 => by rw [Nat.add_zero, sp_ib_s]; simp [h]
  | d + 1 => by rw [show i + 1 + (d + 1) = (i + 1 + d) + 1 from rfl, sp_ib_s, sp_ib_no h d]; rfl
set_option maxRecDepth 100000 in
set_option maxHeartbeats 1000000 in
theorem lpX4_isBookOf_2 {Z : rb_Z} {G : rb_G} {h : rb_H} {T : rb_T} {q a z : Nat} {u : Nat → Int64} (hok : sp_ok T) (hq : q < 4) (ha : a < 8) (hz : z ≤ 40) (hz1 : h.1 (4 + q) 1 0 = nI z) (hu : h.2 (4 + q) 2 = u) (X : rb_CX Z G cX4_isBookOf 4 RX4 5) (Y : rb_RT Z G (some .boolean) (fun r h2 => r = some (.int (if sp_ib u T a z = true then 1 else 0)) ∧ ∃ M, h2 = rb_st h 1 M)) : ∀ fu : Nat, ∀ i : Nat, i ≤ z → z + 1 ≤ i + fu → sp_ib u T a i = true → rb_WP Z G 4 2 [.ref (rb_ad G 8 0), .ref (rb_ad G (4 + q) 0), .int (nI a), .int (nI i)] [] (tw h 1 (sp_days T i)) := by
  intro fu
  induction fu with
  | zero => intro i hi hf hb; omega
  | succ fu ih =>
    intro i hi hf hb
    have hki := sp_days_ok hok i
    refine rb_iload_n X (pc := 2) dX4_isBookOf_2 rfl rfl ?_
    refine rb_aload_n X (pc := 3) dX4_isBookOf_3 rfl rfl ?_
    refine rc_getI X (pc := 4) fX4_208 (rb_obS hq) rfl (show (tw h 1 (sp_days T i)).1 (4 + q) 1 0 = nI z by rw [rb_st_ne (by omega)]; exact hz1) dX4_isBookOf_4 ?_
    refine rb_icmp_ge X (pc := 7) (tgt := 45) dX4_isBookOf_7 (by decide) (fun c7 => ?_) (fun c7 => ?_)
    · have hi2 := (sp_geI (n := z) rfl (by omega) (by omega)).mp c7
      obtain rfl : i = z := by omega
      refine rb_iconst (v := 1) X (pc := 45) dX4_isBookOf_45 (by decide) ?_
      refine rb_zret (S := []) X (pc := 46) Y dX4_isBookOf_46 rfl ?_
      exact ⟨by rw [hb]; rfl, _, rfl⟩
    · have hi2 : i < z := Nat.lt_of_not_le (fun w => c7 ((sp_geI (n := z) rfl (by omega) (by omega)).mpr w))
      refine rb_aload_n X (pc := 10) dX4_isBookOf_10 rfl rfl ?_
      refine rc_getR X (pc := 11) fX4_213 (rb_obS hq) rfl dX4_isBookOf_11 ?_
      refine rb_iload_n X (pc := 14) dX4_isBookOf_14 rfl rfl ?_
      refine rc_lald X (pc := 15) _ (rb_arS2 hq) hu rfl (by omega) dX4_isBookOf_15 ?_
      refine rb_aload_n X (pc := 16) dX4_isBookOf_16 rfl rfl ?_
      refine rc_getO (q := 1) X (pc := 17) fX4_16 rb_ob8 rfl dX4_isBookOf_17 ?_
      refine rc_getR X (pc := 20) fX4_63 (rb_obT (t := 1) (by decide)) rfl dX4_isBookOf_20 ?_
      refine rb_iload_n X (pc := 23) dX4_isBookOf_23 rfl rfl ?_
      refine rc_iald X (pc := 24) _ (rb_arT1 (t := 1) (by decide)) (rb_tj1 (t := 1)) rfl (by omega) dX4_isBookOf_24 ?_
      refine rb_i2l X (pc := 25) dX4_isBookOf_25 ?_
      refine rb_lcmp X (pc := 26) dX4_isBookOf_26 ?_
      refine rb_if_eq X (pc := 27) (tgt := 32) dX4_isBookOf_27 (by decide) (fun c27 => ?_) (fun c27 => ?_)
      · rw [lg_eq0] at c27
        refine rb_aload_n X (pc := 32) dX4_isBookOf_32 rfl rfl ?_
        refine rc_getO (q := 1) X (pc := 33) fX4_16 rb_ob8 rfl dX4_isBookOf_33 ?_
        refine rc_callVv X (pc := 36) cvX3_passDay mX4_181 (rb_obT (t := 1) (by decide)) (qX3_passDay (t := 1) (by decide) (T := sp_days T i) hki) (by decide) rfl rfl (Nat.le_of_ble_eq_true rfl) dX4_isBookOf_36 ?_
        refine rb_iinc X (pc := 39) dX4_isBookOf_39 rfl (sp_inc _) (by decide) rfl rfl ?_
        refine rb_goto X (pc := 42) (tgt := 2) dX4_isBookOf_42 (by decide) ?_
        exact sp_go rfl rfl (ih (i + 1) (by omega) (by omega) (by rw [sp_ib_s, hb]; simp [c27]))
      · rw [lg_eq0] at c27
        refine rb_iconst (v := 0) X (pc := 30) dX4_isBookOf_30 (by decide) ?_
        refine rb_zret (S := []) X (pc := 31) Y dX4_isBookOf_31 rfl ?_
        have e := sp_ib_no c27 (z - (i + 1))
        rw [show i + 1 + (z - (i + 1)) = z by omega] at e
        exact ⟨by rw [e]; rfl, _, rfl⟩
set_option maxRecDepth 100000 in
set_option maxHeartbeats 1000000 in
theorem qX4_isBookOf {G : rb_G} {h : rb_H} {T : rb_T} {q a z : Nat} {u : Nat → Int64} (hok : sp_ok T) (hq : q < 4) (ha : a < 8) (hz : z ≤ 40) (hz1 : h.1 (4 + q) 1 0 = nI z) (hu : h.2 (4 + q) 2 = u) : rb_M G 5 yX4_isBookOf cX4_isBookOf 4 (some .boolean) [.ref (rb_ad G 8 0), .ref (rb_ad G (4 + q) 0), .int (nI a)] (tw h 1 T) (fun r h2 => r = some (.int (if sp_ib u T a z = true then 1 else 0)) ∧ ∃ M, h2 = rb_st h 1 M) := by
  refine rb_meth (L := [.ref (rb_ad G 8 0), .ref (rb_ad G (4 + q) 0), .int (nI a), .null]) (by decide) (Nat.le_of_ble_eq_true rfl) rfl (fun Z X Y => ?_)
  have X : rb_CX Z G cX4_isBookOf 4 RX4 5 := X
  refine rb_iconst (v := 0) X (pc := 0) dX4_isBookOf_0 (by decide) ?_
  refine rb_istore_n X (pc := 1) dX4_isBookOf_1 rfl (by decide) rfl rfl ?_
  exact sp_go rfl rfl (lpX4_isBookOf_2 hok hq ha hz hz1 hu X Y (z + 1) 0 (by omega) (by omega) rfl)
theorem sp_rdk_s {u : Nat → Int64} {T : rb_T} {q z r k : Nat} : sp_rdk u T q z r (k + 1) = sp_rdk u T q z r k + (if sp_ib u (u2 T 5 r (nI k)) q z = true then 1 else 0) := by unfold sp_rdk; rw [fb_ct_succ]
theorem sp_rd_s {u : Nat → Int64} {T : rb_T} {q z r : Nat} : sp_rd u T q z (r + 1) = sp_rd u T q z r + (if T 9 r = nI q then sp_rdk u T q z r 6 else 0) := by unfold sp_rd; rw [fb_sm_succ]
set_option maxRecDepth 100000 in
set_option maxHeartbeats 1000000 in
theorem lpX4_read_55 {Z : rb_Z} {G : rb_G} {σ : Sg} {h : rb_H} (hS : okS σ) (hC : CI σ (tw h 0 (sT σ))) {q a : Nat} (hq : q < 4) (ha : a < 8) {wr : Int32} {p : Int32 × Sg} {i c : Nat} (hi : i < sp_n (sT σ)) (K : ∀ (M : rb_T) (w6 : Int32), rb_WP Z G 7 108 [.ref (rb_ad G 8 0), .int (nI q), .int (nI a), .int wr, .int (nI (c + sp_rdk (sU σ q) (sT σ) a (sZ σ q) i 6)), .int (nI i), .int w6] [] (rb_st (tw h 0 (sT σ)) 1 M)) (X : rb_CX Z G cX4_read 7 RX4 6) (Y : rb_RT Z G (some .int) (PC (tw h 0 (sT σ)) (p))) : ∀ fu : Nat, ∀ (k0 : Nat) (M : rb_T), k0 ≤ 6 → 7 ≤ k0 + fu → rb_WP Z G 7 55 [.ref (rb_ad G 8 0), .int (nI q), .int (nI a), .int wr, .int (nI (c + sp_rdk (sU σ q) (sT σ) a (sZ σ q) i k0)), .int (nI i), .int (nI k0)] [] (rb_st (tw h 0 (sT σ)) 1 M) := by
  intro fu
  induction fu with
  | zero => intro k0 M hk hf; omega
  | succ fu ih =>
    intro k0 M hk hf
    have hok := hS.1
    have hn10 := hok.2.1
    have hZ := hS.2.2.2.2 q hq
    obtain ⟨hw0, hw1, hw2⟩ := hC.2.2.2.2.2.2 q hq
    refine rb_iload X (pc := 55) dX4_read_55 rfl ?_
    refine rb_bipush (v := 6) X (pc := 57) dX4_read_57 (by decide) ?_
    refine rb_icmp_ge X (pc := 59) (tgt := 108) dX4_read_59 (by decide) (fun c59 => ?_) (fun c59 => ?_)
    · have hi2 := (sp_geI (n := 6) rfl (by omega) (by omega)).mp c59
      obtain rfl : k0 = 6 := by omega
      exact K M _
    · have hi2 : k0 < 6 := Nat.lt_of_not_le (fun w => c59 ((sp_geI (n := 6) rfl (by omega) (by omega)).mpr w))
      have hk5 := ok_u5 (i := i) hok ⟨k0, hi2, rfl⟩
      refine rb_aload_n X (pc := 62) dX4_read_62 rfl rfl ?_
      refine rc_getO (q := 1) X (pc := 63) fX4_16 rb_ob8 rfl dX4_read_63 ?_
      refine rb_aload_n X (pc := 66) dX4_read_66 rfl rfl ?_
      refine rc_getO (q := 0) X (pc := 67) fX4_10 rb_ob8 rfl dX4_read_67 ?_
      refine rc_callVv X (pc := 70) cvX3_becomes mX4_177 (rb_obT (t := 1) (by decide)) (qX3_becomes (t := 1) (t2 := 0) (by decide) (by decide) (by decide) (M2 := wl (sT σ)) rfl) (by decide) rfl rfl (Nat.le_of_ble_eq_true rfl) dX4_read_70 ?_
      rw [rb_st_st]
      refine rb_aload_n X (pc := 73) dX4_read_73 rfl rfl ?_
      refine rc_getO (q := 1) X (pc := 74) fX4_16 rb_ob8 rfl dX4_read_74 ?_
      refine rc_getR X (pc := 77) fX4_96 (rb_obT (t := 1) (by decide)) rfl dX4_read_77 ?_
      refine rb_iload X (pc := 80) dX4_read_80 rfl ?_
      refine rb_iload X (pc := 82) dX4_read_82 rfl ?_
      refine rc_iast X (pc := 84) _ (rb_arT5 (t := 1) (by decide)) (tw_u (by decide) (by decide) (by decide)) rfl (by omega) dX4_read_84 ?_
      refine rb_aload_n X (pc := 85) dX4_read_85 rfl rfl ?_
      refine rb_aload_n X (pc := 86) dX4_read_86 rfl rfl ?_
      refine rc_getR X (pc := 87) fX4_35 rb_ob8 rfl dX4_read_87 ?_
      refine rb_iload_n X (pc := 90) dX4_read_90 rfl rfl ?_
      refine rb_aald X (pc := 91) _ rfl (by omega) dX4_read_91 ?_
      refine rb_iload_n X (pc := 92) dX4_read_92 rfl rfl ?_
      refine rc_callV X (pc := 93) cvX4_isBookOf mX4_239 rb_ob8 (qX4_isBookOf (z := sZ σ q) (u := sU σ q) hk5 hq ha hZ hw1 hw2) (by decide) rfl rfl (Nat.le_of_ble_eq_true rfl) dX4_read_93 (fun r_93 h_93 p_93 => ?_)
      obtain ⟨rfl, M2, rfl⟩ := p_93
      refine sp_goS (S' := [.int (if sp_ib (sU σ q) (u2 (sT σ) 5 i (nI k0)) a (sZ σ q) = true then 1 else 0)]) rfl ?_
      refine rb_if_eq X (pc := 96) (tgt := 102) dX4_read_96 (by decide) (fun c96 => ?_) (fun c96 => ?_)
      · (try simp only [sp_b0, Classical.not_not] at c96)
        refine rb_iinc X (pc := 102) dX4_read_102 rfl (sp_inc _) (by decide) rfl rfl ?_
        refine rb_goto X (pc := 105) (tgt := 55) dX4_read_105 (by decide) ?_
        first
        | exact sp_go (by rw [sp_rdk_s, if_pos c96]; rfl) rfl (ih (k0 + 1) _ (by omega) (by omega))
        | exact sp_go (by rw [sp_rdk_s, if_neg c96]; rfl) rfl (ih (k0 + 1) _ (by omega) (by omega))
      · (try simp only [sp_b0, Classical.not_not] at c96)
        refine rb_iinc X (pc := 99) dX4_read_99 rfl (sp_inc _) (by decide) rfl rfl ?_
        refine rb_iinc X (pc := 102) dX4_read_102 rfl (sp_inc _) (by decide) rfl rfl ?_
        refine rb_goto X (pc := 105) (tgt := 55) dX4_read_105 (by decide) ?_
        first
        | exact sp_go (by rw [sp_rdk_s, if_pos c96]; rfl) rfl (ih (k0 + 1) _ (by omega) (by omega))
        | exact sp_go (by rw [sp_rdk_s, if_neg c96]; rfl) rfl (ih (k0 + 1) _ (by omega) (by omega))
set_option maxRecDepth 100000 in
set_option maxHeartbeats 1000000 in
theorem lpX4_read_23 {Z : rb_Z} {G : rb_G} {σ : Sg} {h : rb_H} (hS : okS σ) (hC : CI σ (tw h 0 (sT σ))) {q a : Nat} (hq : q < 4) (ha : a < 8) {wr : Int32} {p : Int32 × Sg} (hp : p = (nI (sp_rd (sU σ q) (sT σ) a (sZ σ q) (sp_n (sT σ))), σ)) (X : rb_CX Z G cX4_read 7 RX4 6) (Y : rb_RT Z G (some .int) (PC (tw h 0 (sT σ)) (p))) : ∀ fu : Nat, ∀ (i : Nat) (M : rb_T), i ≤ sp_n (sT σ) → sp_n (sT σ) + 1 ≤ i + fu → rb_WP Z G 7 23 [.ref (rb_ad G 8 0), .int (nI q), .int (nI a), .int wr, .int (nI (sp_rd (sU σ q) (sT σ) a (sZ σ q) i)), .int (nI i), .null] [] (rb_st (tw h 0 (sT σ)) 1 M) := by
  intro fu
  induction fu with
  | zero => intro i M hi hf; omega
  | succ fu ih =>
    intro i M hi hf
    have hok := hS.1
    have hn10 := hok.2.1
    refine rb_iload X (pc := 23) dX4_read_23 rfl ?_
    refine rb_aload_n X (pc := 25) dX4_read_25 rfl rfl ?_
    refine rc_getO (q := 0) X (pc := 26) fX4_10 rb_ob8 rfl dX4_read_26 ?_
    refine rc_getI X (pc := 29) fX4_160 (rb_obT (t := 0) (by decide)) rfl (show (rb_st (tw h 0 (sT σ)) 1 M).1 0 4 0 = sT σ 4 0 from rfl) dX4_read_29 ?_
    refine rb_icmp_ge X (pc := 32) (tgt := 114) dX4_read_32 (by decide) (fun c32 => ?_) (fun c32 => ?_)
    · have hi2 := (sp_geI hok.1 (by omega) (by omega)).mp c32
      obtain rfl : i = sp_n (sT σ) := by omega
      refine rb_iload X (pc := 114) dX4_read_114 rfl ?_
      refine rb_iret (S := []) X (pc := 116) Y dX4_read_116 ?_
      exact pc_A hC hp
    · have hi2 : i < sp_n (sT σ) := Nat.lt_of_not_le (fun w => c32 ((sp_geI hok.1 (by omega) (by omega)).mpr w))
      refine rb_aload_n X (pc := 35) dX4_read_35 rfl rfl ?_
      refine rc_getO (q := 0) X (pc := 36) fX4_10 rb_ob8 rfl dX4_read_36 ?_
      refine rc_getR X (pc := 39) fX4_108 (rb_obT (t := 0) (by decide)) rfl dX4_read_39 ?_
      refine rb_iload X (pc := 42) dX4_read_42 rfl ?_
      refine rc_iald X (pc := 44) _ (rb_arT9 (t := 0) (by decide)) (show (rb_st (tw h 0 (sT σ)) 1 M).1 0 9 = sT σ 9 from rfl) rfl (by omega) dX4_read_44 ?_
      refine rb_iload_n X (pc := 45) dX4_read_45 rfl rfl ?_
      refine rb_icmp_eq X (pc := 46) (tgt := 52) dX4_read_46 (by decide) (fun c46 => ?_) (fun c46 => ?_)
      · refine rb_iconst (v := 0) X (pc := 52) dX4_read_52 (by decide) ?_
        refine rb_istore X (pc := 53) dX4_read_53 (by decide) rfl rfl ?_
        refine sp_go rfl rfl (lpX4_read_55 hS hC hq ha (c := sp_rd (sU σ q) (sT σ) a (sZ σ q) i) hi2 (fun M w6 => ?_) X Y 7 0 M (by omega) (by omega))
        refine rb_iinc X (pc := 108) dX4_read_108 rfl (sp_inc _) (by decide) rfl rfl ?_
        refine rb_goto X (pc := 111) (tgt := 23) dX4_read_111 (by decide) ?_
        refine sp_drop 6 ?_
        exact sp_go (by rw [sp_rd_s, if_pos (by first | exact c46 | simpa using c46)]; rfl) rfl (ih (i + 1) M (by omega) (by omega))
      · refine rb_goto X (pc := 49) (tgt := 108) dX4_read_49 (by decide) ?_
        refine rb_iinc X (pc := 108) dX4_read_108 rfl (sp_inc _) (by decide) rfl rfl ?_
        refine rb_goto X (pc := 111) (tgt := 23) dX4_read_111 (by decide) ?_
        exact sp_go (by rw [sp_rd_s, if_neg c46]; rfl) rfl (ih (i + 1) M (by omega) (by omega))
set_option maxRecDepth 100000 in
set_option maxHeartbeats 1000000 in
theorem qX4_read {G : rb_G} {σ : Sg} {h : rb_H} (hS : okS σ) (hC : CI σ h)  (s a : Int32) : rb_M G 6 yX4_read cX4_read 7 (some .int) [.ref (rb_ad G 8 0), .int s, .int a] (h) (PC h (r_read σ s a)) := by
  refine rb_meth (L := [.ref (rb_ad G 8 0), .int s, .int a, .null, .null, .null, .null]) (by decide) (Nat.le_of_ble_eq_true rfl) rfl (fun Z X Y => ?_)
  have X : rb_CX Z G cX4_read 7 RX4 6 := X
  obtain ⟨h, rfl⟩ : ∃ h0, h = tw h0 0 (sT σ) := ⟨h, (rb_st_self hC.1).symm⟩
  have hok := hS.1
  have hn4 := hok.1
  have hn10 := hok.2.1
  refine rb_aload_n X (pc := 0) dX4_read_0 rfl rfl ?_
  refine rb_iload_n X (pc := 1) dX4_read_1 rfl rfl ?_
  refine rb_iload_n X (pc := 2) dX4_read_2 rfl rfl ?_
  refine rc_callVi X (pc := 3) cvX4_findingOfBook mX4_235 rb_ob8 (qX4_findingOfBook hC _ _) (by decide) rfl rfl (Nat.le_of_ble_eq_true rfl) dX4_read_3 ?_
  refine rb_istore_n X (pc := 6) dX4_read_6 rfl (by decide) rfl rfl ?_
  refine rb_iload_n X (pc := 7) dX4_read_7 rfl rfl ?_
  refine rb_if_eq X (pc := 8) (tgt := 17) dX4_read_8 (by decide) (fun c8 => ?_) (fun c8 => ?_)
  · have hbk := w_fb_yes c8
    obtain ⟨k1, k2, k3⟩ := w_book_7 hbk
    obtain ⟨q, hq, rfl⟩ := iS_of k1
    obtain ⟨a, ha, rfl⟩ := iH_of k3
    have eq1 : ix (nI q) = q := nI_clamp (by omega)
    have ea : ix (nI a) = a := nI_clamp (by omega)
    have hZ := hS.2.2.2.2 q hq
    obtain ⟨hw0, hw1, hw2⟩ := hC.2.2.2.2.2.2 q hq
    refine rb_iconst (v := 0) X (pc := 17) dX4_read_17 (by decide) ?_
    refine rb_istore X (pc := 18) dX4_read_18 (by decide) rfl rfl ?_
    refine rb_iconst (v := 0) X (pc := 20) dX4_read_20 (by decide) ?_
    refine rb_istore X (pc := 21) dX4_read_21 (by decide) rfl rfl ?_
    exact sp_go rfl (rb_st_self rfl).symm (lpX4_read_23 hS hC hq ha (by rw [r_read, if_pos hbk, eq1, ea]) X Y (sp_n (sT σ) + 1) 0 _ (by omega) (by omega))
  · obtain ⟨i7, hfe⟩ := w_fb_no c8
    refine rb_aload_n X (pc := 11) dX4_read_11 rfl rfl ?_
    refine rb_iload_n X (pc := 12) dX4_read_12 rfl rfl ?_
    refine rc_callVi X (pc := 13) cvX4_finding mX4_57 rb_ob8 (qX4_finding (i := w_book σ s a) i7 (by rw [hfe]; exact w_fi _ i7)) (by decide) rfl rfl (Nat.le_of_ble_eq_true rfl) dX4_read_13 ?_
    refine rb_iret (S := []) X (pc := 16) Y dX4_read_16 ?_
    exact pc_f hC (by rw [r_read, if_neg (by omega), ff, hfe])
