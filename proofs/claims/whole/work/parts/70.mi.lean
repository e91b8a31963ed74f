theorem sp_40 {q i : Nat} : (40 : Int32) * nI q + nI i = nI (40 * q + i) := by rw [show (40 : Int32) = nI 40 from rfl, pk_mul, nI_add]
theorem MI_W {σ : Sg} {h : rb_H} (hM : MI σ h) (q : Nat) (b : Int32) : MI (wS σ (va_up (sW σ) q b) (sZ σ) (sU σ)) (rb_u h 9 12 q b) := by
  refine ⟨hM.1, hM.2.1, hM.2.2.1, hM.2.2.2.1, hM.2.2.2.2.1, hM.2.2.2.2.2.1, fun s hs => ?_⟩
  obtain ⟨a, b2, c⟩ := hM.2.2.2.2.2.2 s hs
  refine ⟨?_, b2, c⟩
  rw [rb_u_row, rb_row_same]
  show va_up (h.1 9 12) q b s = va_up (sW σ) q b s
  simp only [va_up]
  split
  · rfl
  · exact a
theorem MI_Z {σ : Sg} {h : rb_H} (hM : MI σ h) (q n : Nat) : MI (wS σ (sW σ) (va_up (sZ σ) q n) (sU σ)) (rb_u h 9 13 q (nI n)) := by
  refine ⟨hM.1, hM.2.1, hM.2.2.1, hM.2.2.2.1, hM.2.2.2.2.1, hM.2.2.2.2.2.1, fun s hs => ?_⟩
  obtain ⟨a, b2, c⟩ := hM.2.2.2.2.2.2 s hs
  refine ⟨a, ?_, c⟩
  rw [rb_u_row, rb_row_same]
  show va_up (h.1 9 13) q (nI n) s = nI (va_up (sZ σ) q n s)
  simp only [va_up]
  split
  · rfl
  · exact b2
theorem MI_U {σ : Sg} {h : rb_H} (hM : MI σ h) {f : Nat → Int64} (U : Nat → Nat → Int64) (hf : ∀ s, s < 4 → ∀ k, k < 40 → f (40 * s + k) = U s k) : MI (wS σ (sW σ) (sZ σ) U) (rb_rowl h 9 14 f) := by
  refine ⟨hM.1, hM.2.1, hM.2.2.1, hM.2.2.2.1, hM.2.2.2.2.1, hM.2.2.2.2.2.1, fun s hs => ?_⟩
  obtain ⟨a, b2, c⟩ := hM.2.2.2.2.2.2 s hs
  refine ⟨a, b2, fun k hk => ?_⟩
  rw [rb_rowl_same]
  exact hf s hs k hk
theorem MI_m {σ : Sg} {h : rb_H} (hM : MI σ h) {f : Nat → Int64} : MI σ (rb_rowl h 9 15 f) := by
  refine ⟨hM.1, hM.2.1, hM.2.2.1, hM.2.2.2.1, hM.2.2.2.2.1, hM.2.2.2.2.2.1, fun s hs => ?_⟩
  obtain ⟨a, b2, c⟩ := hM.2.2.2.2.2.2 s hs
  refine ⟨a, b2, fun k hk => ?_⟩
  rw [rb_rowl_ne (by decide)]
  exact c k hk
theorem pml_g {σ' : Sg} {h h' : rb_H} {p : Int64 × Sg} {v : Int64} (hM : MI σ' h') (ho : rb_ot h h') (e : p = (v, σ')) : PMl h p (some (.long v)) h' := by subst e; exact ⟨rfl, hM, ho⟩
theorem pml_f {σ : Sg} {h : rb_H} {p : Int64 × Sg} {w : Int32} {i : Nat} (hM : MI σ h) (e : p = (w.toInt64, fnd σ i)) : PMl h p (some (.long w.toInt64)) (rb_u h 9 4 i (h.1 9 4 i + 1)) := pml_g (MI_f hM i) (ot_u ot_rf) e
theorem q40 {s k q i : Nat} (hk : k < 40) (hi : i < 40) : 40 * s + k = 40 * q + i ↔ (s = q ∧ k = i) := by omega
set_option maxRecDepth 100000 in
set_option maxHeartbeats 1000000 in
theorem lpX5_sheet_86 {Z : rb_Z} {G : rb_G} {σ1 : Sg} {h H : rb_H} {q : Nat} {b n0 v : Int32} {p : Int32 × Sg} (hq : q < 4) (hM : MI σ1 H) (ho : rb_ot h H) (hv : H.1 9 13 q = v) (hp : p = (v, wS σ1 (sW σ1) (sZ σ1) (va_up (sU σ1) q (fun _ => 0)))) (X : rb_CX Z G cX5_sheet 5 RX5 2) (Y : rb_RT Z G (some .int) (PM h p)) : ∀ fu : Nat, ∀ (i : Nat) (f : Nat → Int64), i ≤ 40 → 41 ≤ i + fu → (∀ s, s < 4 → ∀ k, k < 40 → f (40 * s + k) = if s = q ∧ k < i then 0 else sU σ1 s k) → rb_WP Z G 5 86 [.ref (rb_ad G 9 0), .int (nI q), .int b, .int n0, .int (nI i)] [] (rb_rowl H 9 14 f) := by
  intro fu
  induction fu with
  | zero => intro i f hi hf hz; omega
  | succ fu ih =>
    intro i f hi hf hz
    refine rb_iload X (pc := 86) dX5_sheet_86 rfl ?_
    refine rb_bipush (v := 40) X (pc := 88) dX5_sheet_88 (by decide) ?_
    refine rb_icmp_ge X (pc := 90) (tgt := 112) dX5_sheet_90 (by decide) (fun c90 => ?_) (fun c90 => ?_)
    · have hi2 := (sp_geI (n := 40) rfl (by omega) (by omega)).mp c90
      obtain rfl : i = 40 := by omega
      refine rb_aload_n X (pc := 112) dX5_sheet_112 rfl rfl ?_
      refine rc_getR X (pc := 113) fX5_31 rb_ob9 rfl dX5_sheet_113 ?_
      refine rb_iload_n X (pc := 116) dX5_sheet_116 rfl rfl ?_
      refine rc_iald X (pc := 117) q rb_ar9_13 (rfl : _ = H.1 9 13) rfl hq dX5_sheet_117 ?_
      refine rb_iret (S := []) X (pc := 118) Y dX5_sheet_118 ?_
      rw [hv]
      refine pm_g (MI_U hM _ (fun s hs k hk => ?_)) (ot_rl ho) hp
      rw [hz s hs k hk]
      simp only [va_up]
      by_cases e : s = q
      · rw [if_pos ⟨e, hk⟩, if_pos e]
      · rw [if_neg (fun z => e z.1), if_neg e]
    · have hi2 : i < 40 := Nat.lt_of_not_le (fun z => c90 ((sp_geI (n := 40) rfl (by omega) (by omega)).mpr z))
      refine rb_aload_n X (pc := 93) dX5_sheet_93 rfl rfl ?_
      refine rc_getR X (pc := 94) fX5_34 rb_ob9 rfl dX5_sheet_94 ?_
      refine rb_bipush (v := 40) X (pc := 97) dX5_sheet_97 (by decide) ?_
      refine rb_iload_n X (pc := 99) dX5_sheet_99 rfl rfl ?_
      refine rb_imul X (pc := 100) dX5_sheet_100 ?_
      refine rb_iload X (pc := 101) dX5_sheet_101 rfl ?_
      refine rb_iadd X (pc := 103) dX5_sheet_103 ?_
      refine rb_lconst (v := 0) X (pc := 104) dX5_sheet_104 (by decide) ?_
      refine rc_last X (pc := 105) (40 * q + i) rb_ar9_14 rb_ul_rowl sp_40 (by omega) dX5_sheet_105 ?_
      refine rb_iinc X (pc := 106) dX5_sheet_106 rfl (sp_inc _) (by decide) rfl rfl ?_
      refine rb_goto X (pc := 109) (tgt := 86) dX5_sheet_109 (by decide) ?_
      exact sp_go rfl rfl (ih (i + 1) _ (by omega) (by omega) (fun s hs k hk => by
        simp only [va_up, q40 hk hi2]
        by_cases e : s = q ∧ k = i
        · rw [if_pos e, if_pos (by omega)]
        · rw [if_neg e, hz s hs k hk]
          by_cases e2 : s = q ∧ k < i
          · rw [if_pos e2, if_pos (by omega)]
          · rw [if_neg e2, if_neg (by omega)]))
set_option maxRecDepth 100000 in
set_option maxHeartbeats 1000000 in
theorem qX5_sheet {G : rb_G} {σ : Sg} {h : rb_H} (hS : okS σ) (hM : MI σ h)  (s b n : Int32) : rb_M G 2 yX5_sheet cX5_sheet 5 (some .int) [.ref (rb_ad G 9 0), .int s, .int b, .int n] (h) (PM h (r_sheet σ s b n)) := by
  refine rb_meth (L := [.ref (rb_ad G 9 0), .int s, .int b, .int n, .null]) (by decide) (Nat.le_of_ble_eq_true rfl) rfl (fun Z X Y => ?_)
  have X : rb_CX Z G cX5_sheet 5 RX5 2 := X
  obtain ⟨h, rfl⟩ : ∃ h0, h = ms h0 (sT σ) := ⟨h, (rb_row_self hM.1).symm⟩
  have hok := hS.1
  have hn4 := hok.1
  have hn10 := hok.2.1
  refine rb_iload_n X (pc := 0) dX5_sheet_0 rfl rfl ?_
  refine rc_callSi X (pc := 1) cvX5_isOne mX5_313 (qX5_isOne _) (by decide) rfl rfl (Nat.le_of_ble_eq_true rfl) dX5_sheet_1 ?_
  refine rb_if_eq X (pc := 4) (tgt := 29) dX5_sheet_4 (by decide) (fun c4 => ?_) (fun c4 => ?_)
  · (try simp only [sp_b0, Classical.not_not] at c4)
    have eR : r_sheet σ s b n = (-1000000001, fnd σ 0) := by rw [r_sheet, if_neg (fun z => c4 (Bool.and_eq_true_iff.mp z).1), ff_0]
    refine rb_aload_n X (pc := 29) dX5_sheet_29 rfl rfl ?_
    refine rb_ldc X (pc := 30) dX5_sheet_30 kX5_45 ?_
    refine rc_callVi X (pc := 32) cvX5_finds mX5_74 rb_ob9 (qX5_finds (i := 0) (by decide) (by decide)) (by decide) rfl rfl (Nat.le_of_ble_eq_true rfl) dX5_sheet_32 ?_
    refine rb_iret (S := []) X (pc := 35) Y dX5_sheet_35 ?_
    exact pm_f hM eR
  · (try simp only [sp_b0, Classical.not_not] at c4)
    obtain ⟨q, hq, rfl⟩ := iS_of c4
    have eq1 : ix (nI q) = q := nI_clamp (by omega)
    refine rb_iload_n X (pc := 7) dX5_sheet_7 rfl rfl ?_
    refine rb_if_eq X (pc := 8) (tgt := 36) dX5_sheet_8 (by decide) (fun c8 => ?_) (fun c8 => ?_)
    · have cb : (decide (b = 0) || decide (b = 8) || decide (b = 16) || decide (b = 64)) = true := by simp [c8]
      refine rb_iload_n X (pc := 36) dX5_sheet_36 rfl rfl ?_
      refine rb_if_ge X (pc := 37) (tgt := 48) dX5_sheet_37 (by decide) (fun c37 => ?_) (fun c37 => ?_)
      · refine rb_iload_n X (pc := 48) dX5_sheet_48 rfl rfl ?_
        refine rb_bipush (v := 40) X (pc := 49) dX5_sheet_49 (by decide) ?_
        refine rb_icmp_le X (pc := 51) (tgt := 61) dX5_sheet_51 (by decide) (fun c51 => ?_) (fun c51 => ?_)
        · obtain ⟨m, hm, rfl⟩ := sp_rngL (n := 40) (by decide) c37 c51
          have em : ix (nI m) = m := nI_clamp (by omega)
          refine rb_aload_n X (pc := 61) dX5_sheet_61 rfl rfl ?_
          refine rc_getR X (pc := 62) fX5_28 rb_ob9 rfl dX5_sheet_62 ?_
          refine rb_iload_n X (pc := 65) dX5_sheet_65 rfl rfl ?_
          refine rb_iload_n X (pc := 66) dX5_sheet_66 rfl rfl ?_
          refine rc_iast X (pc := 67) q rb_ar9_12 rfl rfl hq dX5_sheet_67 ?_
          refine rb_aload_n X (pc := 68) dX5_sheet_68 rfl rfl ?_
          refine rc_getR X (pc := 69) fX5_31 rb_ob9 rfl dX5_sheet_69 ?_
          refine rb_iload_n X (pc := 72) dX5_sheet_72 rfl rfl ?_
          refine rb_iload_n X (pc := 73) dX5_sheet_73 rfl rfl ?_
          refine rb_if_ne X (pc := 74) (tgt := 81) dX5_sheet_74 (by decide) (fun c74 => ?_) (fun c74 => ?_)
          · have eR : r_sheet σ (nI q) b (nI m) = (nI m, wS σ (va_up (sW σ) q b) (va_up (sZ σ) q m) (va_up (sU σ) q (fun _ => 0))) := by rw [r_sheet, c4, cb, if_neg (Int32.not_lt.mpr c37), if_neg (Int32.not_lt.mpr c51), if_neg c74, eq1, em]; rfl
            refine rb_iload_n X (pc := 81) dX5_sheet_81 rfl rfl ?_
            refine rc_iast X (pc := 82) q rb_ar9_13 rfl rfl hq dX5_sheet_82 ?_
            refine rb_iconst (v := 0) X (pc := 83) dX5_sheet_83 (by decide) ?_
            refine rb_istore X (pc := 84) dX5_sheet_84 (by decide) rfl rfl ?_
            first
            | exact sp_go rfl rb_rowl_self.symm (lpX5_sheet_86 hq (MI_Z (MI_W hM q b) q 0) (ot_u (ot_u ot_rf)) (congrFun (rb_row_same) q |>.trans (if_pos rfl)) eR X Y 41 0 _ (by omega) (by omega) (fun s hs k hk => by rw [if_neg (by omega)]; exact ((hM.2.2.2.2.2.2 s hs).2.2 k hk)))
            | exact sp_go rfl rb_rowl_self.symm (lpX5_sheet_86 hq (MI_Z (MI_W hM q b) q m) (ot_u (ot_u ot_rf)) (congrFun (rb_row_same) q |>.trans (if_pos rfl)) eR X Y 41 0 _ (by omega) (by omega) (fun s hs k hk => by rw [if_neg (by omega)]; exact ((hM.2.2.2.2.2.2 s hs).2.2 k hk)))
          · have c74 : b = 0 := by simpa using c74
            have eR : r_sheet σ (nI q) b (nI m) = (0, wS σ (va_up (sW σ) q b) (va_up (sZ σ) q 0) (va_up (sU σ) q (fun _ => 0))) := by rw [r_sheet, c4, cb, if_neg (Int32.not_lt.mpr c37), if_neg (Int32.not_lt.mpr c51), if_pos c74, eq1]; rfl
            refine rb_iconst (v := 0) X (pc := 77) dX5_sheet_77 (by decide) ?_
            refine rb_goto X (pc := 78) (tgt := 82) dX5_sheet_78 (by decide) ?_
            refine rc_iast X (pc := 82) q rb_ar9_13 rfl rfl hq dX5_sheet_82 ?_
            refine rb_iconst (v := 0) X (pc := 83) dX5_sheet_83 (by decide) ?_
            refine rb_istore X (pc := 84) dX5_sheet_84 (by decide) rfl rfl ?_
            first
            | exact sp_go rfl rb_rowl_self.symm (lpX5_sheet_86 hq (MI_Z (MI_W hM q b) q 0) (ot_u (ot_u ot_rf)) (congrFun (rb_row_same) q |>.trans (if_pos rfl)) eR X Y 41 0 _ (by omega) (by omega) (fun s hs k hk => by rw [if_neg (by omega)]; exact ((hM.2.2.2.2.2.2 s hs).2.2 k hk)))
            | exact sp_go rfl rb_rowl_self.symm (lpX5_sheet_86 hq (MI_Z (MI_W hM q b) q m) (ot_u (ot_u ot_rf)) (congrFun (rb_row_same) q |>.trans (if_pos rfl)) eR X Y 41 0 _ (by omega) (by omega) (fun s hs k hk => by rw [if_neg (by omega)]; exact ((hM.2.2.2.2.2.2 s hs).2.2 k hk)))
        · have eR : r_sheet σ (nI q) b n = (-1000000001, fnd σ 0) := by rw [r_sheet, c4, cb, if_neg (Int32.not_lt.mpr c37), if_pos (Int32.not_le.mp c51), ff_0]; rfl
          refine rb_aload_n X (pc := 54) dX5_sheet_54 rfl rfl ?_
          refine rb_ldc X (pc := 55) dX5_sheet_55 kX5_45 ?_
          refine rc_callVi X (pc := 57) cvX5_finds mX5_74 rb_ob9 (qX5_finds (i := 0) (by decide) (by decide)) (by decide) rfl rfl (Nat.le_of_ble_eq_true rfl) dX5_sheet_57 ?_
          refine rb_iret (S := []) X (pc := 60) Y dX5_sheet_60 ?_
          exact pm_f hM eR
      · have eR : r_sheet σ (nI q) b n = (-1000000007, fnd σ 6) := by rw [r_sheet, c4, cb, if_pos (Int32.not_le.mp c37), ff_6]; rfl
        refine rb_aload_n X (pc := 40) dX5_sheet_40 rfl rfl ?_
        refine rb_ldcw X (pc := 41) dX5_sheet_41 kX5_316 ?_
        refine rc_callVi X (pc := 44) cvX5_finds mX5_74 rb_ob9 (qX5_finds (i := 6) (by decide) (by decide)) (by decide) rfl rfl (Nat.le_of_ble_eq_true rfl) dX5_sheet_44 ?_
        refine rb_iret (S := []) X (pc := 47) Y dX5_sheet_47 ?_
        exact pm_f hM eR
    · refine rb_iload_n X (pc := 11) dX5_sheet_11 rfl rfl ?_
      refine rb_bipush (v := 8) X (pc := 12) dX5_sheet_12 (by decide) ?_
      refine rb_icmp_eq X (pc := 14) (tgt := 36) dX5_sheet_14 (by decide) (fun c14 => ?_) (fun c14 => ?_)
      · have cb : (decide (b = 0) || decide (b = 8) || decide (b = 16) || decide (b = 64)) = true := by simp [c14]
        refine rb_iload_n X (pc := 36) dX5_sheet_36 rfl rfl ?_
        refine rb_if_ge X (pc := 37) (tgt := 48) dX5_sheet_37 (by decide) (fun c37 => ?_) (fun c37 => ?_)
        · refine rb_iload_n X (pc := 48) dX5_sheet_48 rfl rfl ?_
          refine rb_bipush (v := 40) X (pc := 49) dX5_sheet_49 (by decide) ?_
          refine rb_icmp_le X (pc := 51) (tgt := 61) dX5_sheet_51 (by decide) (fun c51 => ?_) (fun c51 => ?_)
          · obtain ⟨m, hm, rfl⟩ := sp_rngL (n := 40) (by decide) c37 c51
            have em : ix (nI m) = m := nI_clamp (by omega)
            refine rb_aload_n X (pc := 61) dX5_sheet_61 rfl rfl ?_
            refine rc_getR X (pc := 62) fX5_28 rb_ob9 rfl dX5_sheet_62 ?_
            refine rb_iload_n X (pc := 65) dX5_sheet_65 rfl rfl ?_
            refine rb_iload_n X (pc := 66) dX5_sheet_66 rfl rfl ?_
            refine rc_iast X (pc := 67) q rb_ar9_12 rfl rfl hq dX5_sheet_67 ?_
            refine rb_aload_n X (pc := 68) dX5_sheet_68 rfl rfl ?_
            refine rc_getR X (pc := 69) fX5_31 rb_ob9 rfl dX5_sheet_69 ?_
            refine rb_iload_n X (pc := 72) dX5_sheet_72 rfl rfl ?_
            refine rb_iload_n X (pc := 73) dX5_sheet_73 rfl rfl ?_
            refine rb_if_ne X (pc := 74) (tgt := 81) dX5_sheet_74 (by decide) (fun c74 => ?_) (fun c74 => ?_)
            · have eR : r_sheet σ (nI q) b (nI m) = (nI m, wS σ (va_up (sW σ) q b) (va_up (sZ σ) q m) (va_up (sU σ) q (fun _ => 0))) := by rw [r_sheet, c4, cb, if_neg (Int32.not_lt.mpr c37), if_neg (Int32.not_lt.mpr c51), if_neg c74, eq1, em]; rfl
              refine rb_iload_n X (pc := 81) dX5_sheet_81 rfl rfl ?_
              refine rc_iast X (pc := 82) q rb_ar9_13 rfl rfl hq dX5_sheet_82 ?_
              refine rb_iconst (v := 0) X (pc := 83) dX5_sheet_83 (by decide) ?_
              refine rb_istore X (pc := 84) dX5_sheet_84 (by decide) rfl rfl ?_
              first
              | exact sp_go rfl rb_rowl_self.symm (lpX5_sheet_86 hq (MI_Z (MI_W hM q b) q 0) (ot_u (ot_u ot_rf)) (congrFun (rb_row_same) q |>.trans (if_pos rfl)) eR X Y 41 0 _ (by omega) (by omega) (fun s hs k hk => by rw [if_neg (by omega)]; exact ((hM.2.2.2.2.2.2 s hs).2.2 k hk)))
              | exact sp_go rfl rb_rowl_self.symm (lpX5_sheet_86 hq (MI_Z (MI_W hM q b) q m) (ot_u (ot_u ot_rf)) (congrFun (rb_row_same) q |>.trans (if_pos rfl)) eR X Y 41 0 _ (by omega) (by omega) (fun s hs k hk => by rw [if_neg (by omega)]; exact ((hM.2.2.2.2.2.2 s hs).2.2 k hk)))
            · have c74 : b = 0 := by simpa using c74
              have eR : r_sheet σ (nI q) b (nI m) = (0, wS σ (va_up (sW σ) q b) (va_up (sZ σ) q 0) (va_up (sU σ) q (fun _ => 0))) := by rw [r_sheet, c4, cb, if_neg (Int32.not_lt.mpr c37), if_neg (Int32.not_lt.mpr c51), if_pos c74, eq1]; rfl
              refine rb_iconst (v := 0) X (pc := 77) dX5_sheet_77 (by decide) ?_
              refine rb_goto X (pc := 78) (tgt := 82) dX5_sheet_78 (by decide) ?_
              refine rc_iast X (pc := 82) q rb_ar9_13 rfl rfl hq dX5_sheet_82 ?_
              refine rb_iconst (v := 0) X (pc := 83) dX5_sheet_83 (by decide) ?_
              refine rb_istore X (pc := 84) dX5_sheet_84 (by decide) rfl rfl ?_
              first
              | exact sp_go rfl rb_rowl_self.symm (lpX5_sheet_86 hq (MI_Z (MI_W hM q b) q 0) (ot_u (ot_u ot_rf)) (congrFun (rb_row_same) q |>.trans (if_pos rfl)) eR X Y 41 0 _ (by omega) (by omega) (fun s hs k hk => by rw [if_neg (by omega)]; exact ((hM.2.2.2.2.2.2 s hs).2.2 k hk)))
              | exact sp_go rfl rb_rowl_self.symm (lpX5_sheet_86 hq (MI_Z (MI_W hM q b) q m) (ot_u (ot_u ot_rf)) (congrFun (rb_row_same) q |>.trans (if_pos rfl)) eR X Y 41 0 _ (by omega) (by omega) (fun s hs k hk => by rw [if_neg (by omega)]; exact ((hM.2.2.2.2.2.2 s hs).2.2 k hk)))
          · have eR : r_sheet σ (nI q) b n = (-1000000001, fnd σ 0) := by rw [r_sheet, c4, cb, if_neg (Int32.not_lt.mpr c37), if_pos (Int32.not_le.mp c51), ff_0]; rfl
            refine rb_aload_n X (pc := 54) dX5_sheet_54 rfl rfl ?_
            refine rb_ldc X (pc := 55) dX5_sheet_55 kX5_45 ?_
            refine rc_callVi X (pc := 57) cvX5_finds mX5_74 rb_ob9 (qX5_finds (i := 0) (by decide) (by decide)) (by decide) rfl rfl (Nat.le_of_ble_eq_true rfl) dX5_sheet_57 ?_
            refine rb_iret (S := []) X (pc := 60) Y dX5_sheet_60 ?_
            exact pm_f hM eR
        · have eR : r_sheet σ (nI q) b n = (-1000000007, fnd σ 6) := by rw [r_sheet, c4, cb, if_pos (Int32.not_le.mp c37), ff_6]; rfl
          refine rb_aload_n X (pc := 40) dX5_sheet_40 rfl rfl ?_
          refine rb_ldcw X (pc := 41) dX5_sheet_41 kX5_316 ?_
          refine rc_callVi X (pc := 44) cvX5_finds mX5_74 rb_ob9 (qX5_finds (i := 6) (by decide) (by decide)) (by decide) rfl rfl (Nat.le_of_ble_eq_true rfl) dX5_sheet_44 ?_
          refine rb_iret (S := []) X (pc := 47) Y dX5_sheet_47 ?_
          exact pm_f hM eR
      · refine rb_iload_n X (pc := 17) dX5_sheet_17 rfl rfl ?_
        refine rb_bipush (v := 16) X (pc := 18) dX5_sheet_18 (by decide) ?_
        refine rb_icmp_eq X (pc := 20) (tgt := 36) dX5_sheet_20 (by decide) (fun c20 => ?_) (fun c20 => ?_)
        · have cb : (decide (b = 0) || decide (b = 8) || decide (b = 16) || decide (b = 64)) = true := by simp [c20]
          refine rb_iload_n X (pc := 36) dX5_sheet_36 rfl rfl ?_
          refine rb_if_ge X (pc := 37) (tgt := 48) dX5_sheet_37 (by decide) (fun c37 => ?_) (fun c37 => ?_)
          · refine rb_iload_n X (pc := 48) dX5_sheet_48 rfl rfl ?_
            refine rb_bipush (v := 40) X (pc := 49) dX5_sheet_49 (by decide) ?_
            refine rb_icmp_le X (pc := 51) (tgt := 61) dX5_sheet_51 (by decide) (fun c51 => ?_) (fun c51 => ?_)
            · obtain ⟨m, hm, rfl⟩ := sp_rngL (n := 40) (by decide) c37 c51
              have em : ix (nI m) = m := nI_clamp (by omega)
              refine rb_aload_n X (pc := 61) dX5_sheet_61 rfl rfl ?_
              refine rc_getR X (pc := 62) fX5_28 rb_ob9 rfl dX5_sheet_62 ?_
              refine rb_iload_n X (pc := 65) dX5_sheet_65 rfl rfl ?_
              refine rb_iload_n X (pc := 66) dX5_sheet_66 rfl rfl ?_
              refine rc_iast X (pc := 67) q rb_ar9_12 rfl rfl hq dX5_sheet_67 ?_
              refine rb_aload_n X (pc := 68) dX5_sheet_68 rfl rfl ?_
              refine rc_getR X (pc := 69) fX5_31 rb_ob9 rfl dX5_sheet_69 ?_
              refine rb_iload_n X (pc := 72) dX5_sheet_72 rfl rfl ?_
              refine rb_iload_n X (pc := 73) dX5_sheet_73 rfl rfl ?_
              refine rb_if_ne X (pc := 74) (tgt := 81) dX5_sheet_74 (by decide) (fun c74 => ?_) (fun c74 => ?_)
              · have eR : r_sheet σ (nI q) b (nI m) = (nI m, wS σ (va_up (sW σ) q b) (va_up (sZ σ) q m) (va_up (sU σ) q (fun _ => 0))) := by rw [r_sheet, c4, cb, if_neg (Int32.not_lt.mpr c37), if_neg (Int32.not_lt.mpr c51), if_neg c74, eq1, em]; rfl
                refine rb_iload_n X (pc := 81) dX5_sheet_81 rfl rfl ?_
                refine rc_iast X (pc := 82) q rb_ar9_13 rfl rfl hq dX5_sheet_82 ?_
                refine rb_iconst (v := 0) X (pc := 83) dX5_sheet_83 (by decide) ?_
                refine rb_istore X (pc := 84) dX5_sheet_84 (by decide) rfl rfl ?_
                first
                | exact sp_go rfl rb_rowl_self.symm (lpX5_sheet_86 hq (MI_Z (MI_W hM q b) q 0) (ot_u (ot_u ot_rf)) (congrFun (rb_row_same) q |>.trans (if_pos rfl)) eR X Y 41 0 _ (by omega) (by omega) (fun s hs k hk => by rw [if_neg (by omega)]; exact ((hM.2.2.2.2.2.2 s hs).2.2 k hk)))
                | exact sp_go rfl rb_rowl_self.symm (lpX5_sheet_86 hq (MI_Z (MI_W hM q b) q m) (ot_u (ot_u ot_rf)) (congrFun (rb_row_same) q |>.trans (if_pos rfl)) eR X Y 41 0 _ (by omega) (by omega) (fun s hs k hk => by rw [if_neg (by omega)]; exact ((hM.2.2.2.2.2.2 s hs).2.2 k hk)))
              · have c74 : b = 0 := by simpa using c74
                have eR : r_sheet σ (nI q) b (nI m) = (0, wS σ (va_up (sW σ) q b) (va_up (sZ σ) q 0) (va_up (sU σ) q (fun _ => 0))) := by rw [r_sheet, c4, cb, if_neg (Int32.not_lt.mpr c37), if_neg (Int32.not_lt.mpr c51), if_pos c74, eq1]; rfl
                refine rb_iconst (v := 0) X (pc := 77) dX5_sheet_77 (by decide) ?_
                refine rb_goto X (pc := 78) (tgt := 82) dX5_sheet_78 (by decide) ?_
                refine rc_iast X (pc := 82) q rb_ar9_13 rfl rfl hq dX5_sheet_82 ?_
                refine rb_iconst (v := 0) X (pc := 83) dX5_sheet_83 (by decide) ?_
                refine rb_istore X (pc := 84) dX5_sheet_84 (by decide) rfl rfl ?_
                first
                | exact sp_go rfl rb_rowl_self.symm (lpX5_sheet_86 hq (MI_Z (MI_W hM q b) q 0) (ot_u (ot_u ot_rf)) (congrFun (rb_row_same) q |>.trans (if_pos rfl)) eR X Y 41 0 _ (by omega) (by omega) (fun s hs k hk => by rw [if_neg (by omega)]; exact ((hM.2.2.2.2.2.2 s hs).2.2 k hk)))
                | exact sp_go rfl rb_rowl_self.symm (lpX5_sheet_86 hq (MI_Z (MI_W hM q b) q m) (ot_u (ot_u ot_rf)) (congrFun (rb_row_same) q |>.trans (if_pos rfl)) eR X Y 41 0 _ (by omega) (by omega) (fun s hs k hk => by rw [if_neg (by omega)]; exact ((hM.2.2.2.2.2.2 s hs).2.2 k hk)))
            · have eR : r_sheet σ (nI q) b n = (-1000000001, fnd σ 0) := by rw [r_sheet, c4, cb, if_neg (Int32.not_lt.mpr c37), if_pos (Int32.not_le.mp c51), ff_0]; rfl
              refine rb_aload_n X (pc := 54) dX5_sheet_54 rfl rfl ?_
              refine rb_ldc X (pc := 55) dX5_sheet_55 kX5_45 ?_
              refine rc_callVi X (pc := 57) cvX5_finds mX5_74 rb_ob9 (qX5_finds (i := 0) (by decide) (by decide)) (by decide) rfl rfl (Nat.le_of_ble_eq_true rfl) dX5_sheet_57 ?_
              refine rb_iret (S := []) X (pc := 60) Y dX5_sheet_60 ?_
              exact pm_f hM eR
          · have eR : r_sheet σ (nI q) b n = (-1000000007, fnd σ 6) := by rw [r_sheet, c4, cb, if_pos (Int32.not_le.mp c37), ff_6]; rfl
            refine rb_aload_n X (pc := 40) dX5_sheet_40 rfl rfl ?_
            refine rb_ldcw X (pc := 41) dX5_sheet_41 kX5_316 ?_
            refine rc_callVi X (pc := 44) cvX5_finds mX5_74 rb_ob9 (qX5_finds (i := 6) (by decide) (by decide)) (by decide) rfl rfl (Nat.le_of_ble_eq_true rfl) dX5_sheet_44 ?_
            refine rb_iret (S := []) X (pc := 47) Y dX5_sheet_47 ?_
            exact pm_f hM eR
        · refine rb_iload_n X (pc := 23) dX5_sheet_23 rfl rfl ?_
          refine rb_bipush (v := 64) X (pc := 24) dX5_sheet_24 (by decide) ?_
          refine rb_icmp_eq X (pc := 26) (tgt := 36) dX5_sheet_26 (by decide) (fun c26 => ?_) (fun c26 => ?_)
          · have cb : (decide (b = 0) || decide (b = 8) || decide (b = 16) || decide (b = 64)) = true := by simp [c26]
            refine rb_iload_n X (pc := 36) dX5_sheet_36 rfl rfl ?_
            refine rb_if_ge X (pc := 37) (tgt := 48) dX5_sheet_37 (by decide) (fun c37 => ?_) (fun c37 => ?_)
            · refine rb_iload_n X (pc := 48) dX5_sheet_48 rfl rfl ?_
              refine rb_bipush (v := 40) X (pc := 49) dX5_sheet_49 (by decide) ?_
              refine rb_icmp_le X (pc := 51) (tgt := 61) dX5_sheet_51 (by decide) (fun c51 => ?_) (fun c51 => ?_)
              · obtain ⟨m, hm, rfl⟩ := sp_rngL (n := 40) (by decide) c37 c51
                have em : ix (nI m) = m := nI_clamp (by omega)
                refine rb_aload_n X (pc := 61) dX5_sheet_61 rfl rfl ?_
                refine rc_getR X (pc := 62) fX5_28 rb_ob9 rfl dX5_sheet_62 ?_
                refine rb_iload_n X (pc := 65) dX5_sheet_65 rfl rfl ?_
                refine rb_iload_n X (pc := 66) dX5_sheet_66 rfl rfl ?_
                refine rc_iast X (pc := 67) q rb_ar9_12 rfl rfl hq dX5_sheet_67 ?_
                refine rb_aload_n X (pc := 68) dX5_sheet_68 rfl rfl ?_
                refine rc_getR X (pc := 69) fX5_31 rb_ob9 rfl dX5_sheet_69 ?_
                refine rb_iload_n X (pc := 72) dX5_sheet_72 rfl rfl ?_
                refine rb_iload_n X (pc := 73) dX5_sheet_73 rfl rfl ?_
                refine rb_if_ne X (pc := 74) (tgt := 81) dX5_sheet_74 (by decide) (fun c74 => ?_) (fun c74 => ?_)
                · have eR : r_sheet σ (nI q) b (nI m) = (nI m, wS σ (va_up (sW σ) q b) (va_up (sZ σ) q m) (va_up (sU σ) q (fun _ => 0))) := by rw [r_sheet, c4, cb, if_neg (Int32.not_lt.mpr c37), if_neg (Int32.not_lt.mpr c51), if_neg c74, eq1, em]; rfl
                  refine rb_iload_n X (pc := 81) dX5_sheet_81 rfl rfl ?_
                  refine rc_iast X (pc := 82) q rb_ar9_13 rfl rfl hq dX5_sheet_82 ?_
                  refine rb_iconst (v := 0) X (pc := 83) dX5_sheet_83 (by decide) ?_
                  refine rb_istore X (pc := 84) dX5_sheet_84 (by decide) rfl rfl ?_
                  first
                  | exact sp_go rfl rb_rowl_self.symm (lpX5_sheet_86 hq (MI_Z (MI_W hM q b) q 0) (ot_u (ot_u ot_rf)) (congrFun (rb_row_same) q |>.trans (if_pos rfl)) eR X Y 41 0 _ (by omega) (by omega) (fun s hs k hk => by rw [if_neg (by omega)]; exact ((hM.2.2.2.2.2.2 s hs).2.2 k hk)))
                  | exact sp_go rfl rb_rowl_self.symm (lpX5_sheet_86 hq (MI_Z (MI_W hM q b) q m) (ot_u (ot_u ot_rf)) (congrFun (rb_row_same) q |>.trans (if_pos rfl)) eR X Y 41 0 _ (by omega) (by omega) (fun s hs k hk => by rw [if_neg (by omega)]; exact ((hM.2.2.2.2.2.2 s hs).2.2 k hk)))
                · have c74 : b = 0 := by simpa using c74
                  have eR : r_sheet σ (nI q) b (nI m) = (0, wS σ (va_up (sW σ) q b) (va_up (sZ σ) q 0) (va_up (sU σ) q (fun _ => 0))) := by rw [r_sheet, c4, cb, if_neg (Int32.not_lt.mpr c37), if_neg (Int32.not_lt.mpr c51), if_pos c74, eq1]; rfl
                  refine rb_iconst (v := 0) X (pc := 77) dX5_sheet_77 (by decide) ?_
                  refine rb_goto X (pc := 78) (tgt := 82) dX5_sheet_78 (by decide) ?_
                  refine rc_iast X (pc := 82) q rb_ar9_13 rfl rfl hq dX5_sheet_82 ?_
                  refine rb_iconst (v := 0) X (pc := 83) dX5_sheet_83 (by decide) ?_
                  refine rb_istore X (pc := 84) dX5_sheet_84 (by decide) rfl rfl ?_
                  first
                  | exact sp_go rfl rb_rowl_self.symm (lpX5_sheet_86 hq (MI_Z (MI_W hM q b) q 0) (ot_u (ot_u ot_rf)) (congrFun (rb_row_same) q |>.trans (if_pos rfl)) eR X Y 41 0 _ (by omega) (by omega) (fun s hs k hk => by rw [if_neg (by omega)]; exact ((hM.2.2.2.2.2.2 s hs).2.2 k hk)))
                  | exact sp_go rfl rb_rowl_self.symm (lpX5_sheet_86 hq (MI_Z (MI_W hM q b) q m) (ot_u (ot_u ot_rf)) (congrFun (rb_row_same) q |>.trans (if_pos rfl)) eR X Y 41 0 _ (by omega) (by omega) (fun s hs k hk => by rw [if_neg (by omega)]; exact ((hM.2.2.2.2.2.2 s hs).2.2 k hk)))
              · have eR : r_sheet σ (nI q) b n = (-1000000001, fnd σ 0) := by rw [r_sheet, c4, cb, if_neg (Int32.not_lt.mpr c37), if_pos (Int32.not_le.mp c51), ff_0]; rfl
                refine rb_aload_n X (pc := 54) dX5_sheet_54 rfl rfl ?_
                refine rb_ldc X (pc := 55) dX5_sheet_55 kX5_45 ?_
                refine rc_callVi X (pc := 57) cvX5_finds mX5_74 rb_ob9 (qX5_finds (i := 0) (by decide) (by decide)) (by decide) rfl rfl (Nat.le_of_ble_eq_true rfl) dX5_sheet_57 ?_
                refine rb_iret (S := []) X (pc := 60) Y dX5_sheet_60 ?_
                exact pm_f hM eR
            · have eR : r_sheet σ (nI q) b n = (-1000000007, fnd σ 6) := by rw [r_sheet, c4, cb, if_pos (Int32.not_le.mp c37), ff_6]; rfl
              refine rb_aload_n X (pc := 40) dX5_sheet_40 rfl rfl ?_
              refine rb_ldcw X (pc := 41) dX5_sheet_41 kX5_316 ?_
              refine rc_callVi X (pc := 44) cvX5_finds mX5_74 rb_ob9 (qX5_finds (i := 6) (by decide) (by decide)) (by decide) rfl rfl (Nat.le_of_ble_eq_true rfl) dX5_sheet_44 ?_
              refine rb_iret (S := []) X (pc := 47) Y dX5_sheet_47 ?_
              exact pm_f hM eR
          · have eR : r_sheet σ (nI q) b n = (-1000000001, fnd σ 0) := by rw [r_sheet, if_neg (fun z => by simp [c8, c14, c20, c26] at z), ff_0]
            refine rb_aload_n X (pc := 29) dX5_sheet_29 rfl rfl ?_
            refine rb_ldc X (pc := 30) dX5_sheet_30 kX5_45 ?_
            refine rc_callVi X (pc := 32) cvX5_finds mX5_74 rb_ob9 (qX5_finds (i := 0) (by decide) (by decide)) (by decide) rfl rfl (Nat.le_of_ble_eq_true rfl) dX5_sheet_32 ?_
            refine rb_iret (S := []) X (pc := 35) Y dX5_sheet_35 ?_
            exact pm_f hM eR
set_option maxRecDepth 100000 in
set_option maxHeartbeats 1000000 in
theorem qX5_narrowed {G : rb_G} {h : rb_H} (b : Int32) (v : Int64) : rb_M G 0 yX5_narrowed cX5_narrowed 3 (some .long) [.int b, .long v] (h) (rb_F (some (.long (sp_nar b v))) h) := by
  refine rb_meth (L := [.int b, .long v, .null]) (by decide) (Nat.le_of_ble_eq_true rfl) rfl (fun Z X Y => ?_)
  have X : rb_CX Z G cX5_narrowed 3 RX5 0 := X
  refine rb_iload_n X (pc := 0) dX5_narrowed_0 rfl rfl ?_
  refine rb_bipush (v := 8) X (pc := 1) dX5_narrowed_1 (by decide) ?_
  refine rb_icmp_ne X (pc := 3) (tgt := 13) dX5_narrowed_3 (by decide) (fun c3 => ?_) (fun c3 => ?_)
  · refine rb_iload_n X (pc := 13) dX5_narrowed_13 rfl rfl ?_
    refine rb_bipush (v := 16) X (pc := 14) dX5_narrowed_14 (by decide) ?_
    refine rb_icmp_ne X (pc := 16) (tgt := 26) dX5_narrowed_16 (by decide) (fun c16 => ?_) (fun c16 => ?_)
    · refine rb_lload_n X (pc := 26) dX5_narrowed_26 rfl rfl ?_
      refine rb_lret (S := []) X (pc := 27) Y dX5_narrowed_27 ?_
      exact ⟨by simp_all [sp_nar], rfl⟩
    · refine rb_lload_n X (pc := 19) dX5_narrowed_19 rfl rfl ?_
      refine rb_l2i X (pc := 20) dX5_narrowed_20 ?_
      refine rb_i2s X (pc := 21) dX5_narrowed_21 ?_
      refine rb_i2l X (pc := 22) dX5_narrowed_22 ?_
      refine rb_goto X (pc := 23) (tgt := 27) dX5_narrowed_23 (by decide) ?_
      refine rb_lret (S := []) X (pc := 27) Y dX5_narrowed_27 ?_
      exact ⟨by simp_all [sp_nar], rfl⟩
  · refine rb_lload_n X (pc := 6) dX5_narrowed_6 rfl rfl ?_
    refine rb_l2i X (pc := 7) dX5_narrowed_7 ?_
    refine rb_i2b X (pc := 8) dX5_narrowed_8 ?_
    refine rb_i2l X (pc := 9) dX5_narrowed_9 ?_
    refine rb_goto X (pc := 10) (tgt := 27) dX5_narrowed_10 (by decide) ?_
    refine rb_lret (S := []) X (pc := 27) Y dX5_narrowed_27 ?_
    exact ⟨by simp_all [sp_nar], rfl⟩
def w_shN (σ : Sg) (s : Int32) : Nat := if iS s then (if sW σ (ix s) = 0 then 5 else 7) else 0
def w_sh (σ : Sg) (s : Int32) : Int32 := if w_shN σ s = 7 then 0 else -1000000001 - nI (w_shN σ s)
theorem w_shN_le {σ : Sg} {s : Int32} : w_shN σ s = 7 ∨ w_shN σ s < 7 := by
  unfold w_shN
  split
  · split
    · exact Or.inr (by decide)
    · exact Or.inl rfl
  · exact Or.inr (by decide)
theorem w_sh_no {σ : Sg} {s : Int32} (h : ¬ w_sh σ s = 0) : w_shN σ s < 7 ∧ w_sh σ s = -1000000001 - nI (w_shN σ s) := by
  unfold w_sh at h ⊢
  by_cases e : w_shN σ s = 7
  · simp [e] at h
  · exact ⟨w_shN_le.resolve_left e, if_neg e⟩
theorem w_sh_yes {σ : Sg} {s : Int32} (h : w_sh σ s = 0) : iS s = true ∧ ¬ sW σ (ix s) = 0 := by
  unfold w_sh at h
  by_cases e : w_shN σ s = 7
  · unfold w_shN at e
    by_cases h1 : iS s = true
    · rw [if_pos h1] at e
      by_cases h2 : sW σ (ix s) = 0
      · rw [if_pos h2] at e; cases e
      · exact ⟨h1, h2⟩
    · rw [if_neg h1] at e; cases e
  · rw [if_neg e] at h
    have h7 := w_shN_le.resolve_left e
    generalize w_shN σ s = i at h h7
    exact absurd h ((by decide : ∀ i, i < 7 → ¬ (-1000000001 : Int32) - nI i = 0) i h7)
theorem w_sh_w {σ : Sg} {s i : Int32} {v : Int64} (h : w_shN σ s < 7) : r_write σ s i v = ffl σ (w_shN σ s) := by
  unfold w_shN at h ⊢
  rw [r_write]
  by_cases h1 : iS s = true
  · rw [if_pos h1] at h ⊢
    by_cases h2 : sW σ (ix s) = 0
    · rw [if_pos h1, if_pos h2, if_pos h2]
    · rw [if_neg h2] at h; omega
  · rw [if_neg h1, if_neg h1]
theorem w_sh_l {σ : Sg} {s : Int32} (h : w_shN σ s < 7) : r_lays σ s = ff σ (w_shN σ s) := by
  unfold w_shN at h ⊢
  rw [r_lays]
  by_cases h1 : iS s = true
  · rw [if_pos h1] at h ⊢
    by_cases h2 : sW σ (ix s) = 0
    · rw [if_pos h1, if_pos h2, if_pos h2]
    · rw [if_neg h2] at h; omega
  · rw [if_neg h1, if_neg h1]
set_option maxRecDepth 100000 in
set_option maxHeartbeats 1000000 in
theorem qX5_wrongSheet {G : rb_G} {σ : Sg} {h : rb_H} (hM : MI σ h) (s : Int32) : rb_M G 2 yX5_wrongSheet cX5_wrongSheet 2 (some .int) [.ref (rb_ad G 9 0), .int s] (h) (rb_F (some (.int (w_sh σ s))) (h)) := by
  refine rb_meth (L := [.ref (rb_ad G 9 0), .int s]) (by decide) (Nat.le_of_ble_eq_true rfl) rfl (fun Z X Y => ?_)
  have X : rb_CX Z G cX5_wrongSheet 2 RX5 2 := X
  refine rb_iload_n X (pc := 0) dX5_wrongSheet_0 rfl rfl ?_
  refine rc_callSi X (pc := 1) cvX5_isOne mX5_313 (qX5_isOne _) (by decide) rfl rfl (Nat.le_of_ble_eq_true rfl) dX5_wrongSheet_1 ?_
  refine rb_if_ne X (pc := 4) (tgt := 12) dX5_wrongSheet_4 (by decide) (fun c4 => ?_) (fun c4 => ?_)
  · (try simp only [sp_b0, Classical.not_not] at c4)
    obtain ⟨q, hq, rfl⟩ := iS_of c4
    have eq1 : ix (nI q) = q := nI_clamp (by omega)
    obtain ⟨hw0, hw1, hw2⟩ := hM.2.2.2.2.2.2 q hq
    refine rb_aload_n X (pc := 12) dX5_wrongSheet_12 rfl rfl ?_
    refine rc_getR X (pc := 13) fX5_28 rb_ob9 rfl dX5_wrongSheet_13 ?_
    refine rb_iload_n X (pc := 16) dX5_wrongSheet_16 rfl rfl ?_
    refine rc_iald X (pc := 17) q rb_ar9_12 rfl rfl hq dX5_wrongSheet_17 ?_
    refine rb_if_ne X (pc := 18) (tgt := 27) dX5_wrongSheet_18 (by decide) (fun c18 => ?_) (fun c18 => ?_)
    · rw [hw0] at c18
      refine rb_iconst (v := 0) X (pc := 27) dX5_wrongSheet_27 (by decide) ?_
      refine rb_iret (S := []) X (pc := 28) Y dX5_wrongSheet_28 ?_
      refine ⟨?_, rfl⟩
      first
      | (simp [w_sh, w_shN, c4, eq1, c18]; done)
      | (simp [w_sh, w_shN, c4, eq1, c18]; decide)
      | (simp [w_sh, w_shN, c4]; decide)
    · rw [hw0] at c18
      refine rb_ldcw X (pc := 21) dX5_wrongSheet_21 kX5_317 ?_
      refine rb_goto X (pc := 24) (tgt := 28) dX5_wrongSheet_24 (by decide) ?_
      refine rb_iret (S := []) X (pc := 28) Y dX5_wrongSheet_28 ?_
      refine ⟨?_, rfl⟩
      first
      | (simp [w_sh, w_shN, c4, eq1, c18]; done)
      | (simp [w_sh, w_shN, c4, eq1, c18]; decide)
      | (simp [w_sh, w_shN, c4]; decide)
  · (try simp only [sp_b0, Classical.not_not] at c4)
    refine rb_ldc X (pc := 7) dX5_wrongSheet_7 kX5_45 ?_
    refine rb_goto X (pc := 9) (tgt := 28) dX5_wrongSheet_9 (by decide) ?_
    refine rb_iret (S := []) X (pc := 28) Y dX5_wrongSheet_28 ?_
    refine ⟨?_, rfl⟩
    first
    | (simp [w_sh, w_shN, c4, eq1, c18]; done)
    | (simp [w_sh, w_shN, c4, eq1, c18]; decide)
    | (simp [w_sh, w_shN, c4]; decide)
set_option maxRecDepth 100000 in
set_option maxHeartbeats 1000000 in
theorem qX5_write {G : rb_G} {σ : Sg} {h : rb_H} (hS : okS σ) (hM : MI σ h) (s i : Int32) (v : Int64) : rb_M G 3 yX5_write cX5_write 8 (some .long) [.ref (rb_ad G 9 0), .int s, .int i, .long v] (h) (PMl h (r_write σ s i v)) := by
  refine rb_meth (L := [.ref (rb_ad G 9 0), .int s, .int i, .long v, .null, .null, .null, .null]) (by decide) (Nat.le_of_ble_eq_true rfl) rfl (fun Z X Y => ?_)
  have X : rb_CX Z G cX5_write 8 RX5 3 := X
  refine rb_aload_n X (pc := 0) dX5_write_0 rfl rfl ?_
  refine rb_iload_n X (pc := 1) dX5_write_1 rfl rfl ?_
  refine rc_callVi X (pc := 2) cvX5_wrongSheet mX5_318 rb_ob9 (qX5_wrongSheet hM _) (by decide) rfl rfl (Nat.le_of_ble_eq_true rfl) dX5_write_2 ?_
  refine rb_istore X (pc := 5) dX5_write_5 (by decide) rfl rfl ?_
  refine rb_iload X (pc := 7) dX5_write_7 rfl ?_
  refine rb_if_eq X (pc := 9) (tgt := 20) dX5_write_9 (by decide) (fun c9 => ?_) (fun c9 => ?_)
  · obtain ⟨k1, k2⟩ := w_sh_yes c9
    obtain ⟨q, hq, rfl⟩ := iS_of k1
    have eq1 : ix (nI q) = q := nI_clamp (by omega)
    rw [eq1] at k2
    have hZ := hS.2.2.2.2 q hq
    obtain ⟨hw0, hw1, hw2⟩ := hM.2.2.2.2.2.2 q hq
    refine rb_iload_n X (pc := 20) dX5_write_20 rfl rfl ?_
    refine rb_i2l X (pc := 21) dX5_write_21 ?_
    refine rb_lconst (v := 0) X (pc := 22) dX5_write_22 (by decide) ?_
    refine rb_aload_n X (pc := 23) dX5_write_23 rfl rfl ?_
    refine rc_getR X (pc := 24) fX5_31 rb_ob9 rfl dX5_write_24 ?_
    refine rb_iload_n X (pc := 27) dX5_write_27 rfl rfl ?_
    refine rc_iald X (pc := 28) q rb_ar9_13 rfl rfl hq dX5_write_28 ?_
    refine rb_iconst (v := 1) X (pc := 29) dX5_write_29 (by decide) ?_
    refine rb_isub X (pc := 30) dX5_write_30 ?_
    refine rb_i2l X (pc := 31) dX5_write_31 ?_
    refine rc_callSi X (pc := 32) cvX5_in mX5_48 (qJn (a := (0)) (b := _) rfl rfl) (by decide) rfl rfl (Nat.le_of_ble_eq_true rfl) dX5_write_32 ?_
    refine rb_if_ne X (pc := 35) (tgt := 46) dX5_write_35 (by decide) (fun c35 => ?_) (fun c35 => ?_)
    · (try simp only [sp_b0, Classical.not_not] at c35)
      rw [hw1, i_lt1 (by omega)] at c35
      obtain ⟨j, hj, rfl⟩ := sp_rng (by omega) c35.1 c35.2
      have ej : ix (nI j) = j := nI_clamp (by omega)
      refine rb_aload_n X (pc := 46) dX5_write_46 rfl rfl ?_
      refine rc_getR X (pc := 47) fX5_34 rb_ob9 rfl dX5_write_47 ?_
      refine rb_bipush (v := 40) X (pc := 50) dX5_write_50 (by decide) ?_
      refine rb_iload_n X (pc := 52) dX5_write_52 rfl rfl ?_
      refine rb_imul X (pc := 53) dX5_write_53 ?_
      refine rb_iload_n X (pc := 54) dX5_write_54 rfl rfl ?_
      refine rb_iadd X (pc := 55) dX5_write_55 ?_
      refine rc_lald X (pc := 56) (40 * q + j) rb_ar9_14 rfl sp_40 (by omega) dX5_write_56 ?_
      refine rb_lstore X (pc := 57) dX5_write_57 (by decide) rfl rfl ?_
      refine rb_aload_n X (pc := 59) dX5_write_59 rfl rfl ?_
      refine rc_getR X (pc := 60) fX5_34 rb_ob9 rfl dX5_write_60 ?_
      refine rb_bipush (v := 40) X (pc := 63) dX5_write_63 (by decide) ?_
      refine rb_iload_n X (pc := 65) dX5_write_65 rfl rfl ?_
      refine rb_imul X (pc := 66) dX5_write_66 ?_
      refine rb_iload_n X (pc := 67) dX5_write_67 rfl rfl ?_
      refine rb_iadd X (pc := 68) dX5_write_68 ?_
      refine rb_aload_n X (pc := 69) dX5_write_69 rfl rfl ?_
      refine rc_getR X (pc := 70) fX5_28 rb_ob9 rfl dX5_write_70 ?_
      refine rb_iload_n X (pc := 73) dX5_write_73 rfl rfl ?_
      refine rc_iald X (pc := 74) q rb_ar9_12 rfl rfl hq dX5_write_74 ?_
      refine rb_lload_n X (pc := 75) dX5_write_75 rfl rfl ?_
      refine rc_callSl X (pc := 76) cvX5_narrowed mX5_321 (qX5_narrowed _ _) (by decide) rfl rfl (Nat.le_of_ble_eq_true rfl) dX5_write_76 ?_
      refine rc_last X (pc := 79) (40 * q + j) rb_ar9_14 rfl sp_40 (by omega) dX5_write_79 ?_
      refine rb_lload X (pc := 80) dX5_write_80 rfl ?_
      refine rb_lret (S := []) X (pc := 82) Y dX5_write_82 ?_
      rw [hw2 j (by omega), hw0]
      refine pml_g (MI_U hM _ (fun s hs k hk => ?_)) (ot_ul ot_rf) (by rw [r_write, if_pos k1, eq1, if_neg k2, if_pos c35, ej])
      simp only [va_up, q40 hk (show j < 40 by omega)]
      by_cases e : s = q
      · subst e
        by_cases e2 : k = j
        · subst e2; simp [va_up]
        · simp [va_up, e2]; exact hw2 k hk
      · simp [e]; exact (hM.2.2.2.2.2.2 s hs).2.2 k hk
    · (try simp only [sp_b0, Classical.not_not] at c35)
      rw [hw1, i_lt1 (by omega)] at c35
      refine rb_aload_n X (pc := 38) dX5_write_38 rfl rfl ?_
      refine rb_ldc X (pc := 39) dX5_write_39 kX5_45 ?_
      refine rc_callVi X (pc := 41) cvX5_finds mX5_74 rb_ob9 (qX5_finds (i := 0) (by decide) (by decide)) (by decide) rfl rfl (Nat.le_of_ble_eq_true rfl) dX5_write_41 ?_
      refine rb_i2l X (pc := 44) dX5_write_44 ?_
      refine rb_lret (S := []) X (pc := 45) Y dX5_write_45 ?_
      exact pml_f hM (by rw [r_write, if_pos k1, eq1, if_neg k2, if_neg c35, ffl_0])
  · obtain ⟨i7, hfe⟩ := w_sh_no c9
    refine rb_aload_n X (pc := 12) dX5_write_12 rfl rfl ?_
    refine rb_iload X (pc := 13) dX5_write_13 rfl ?_
    refine rc_callVi X (pc := 15) cvX5_finds mX5_74 rb_ob9 (qX5_finds (i := w_shN σ s) i7 (by rw [hfe]; exact w_fi _ i7)) (by decide) rfl rfl (Nat.le_of_ble_eq_true rfl) dX5_write_15 ?_
    refine rb_i2l X (pc := 18) dX5_write_18 ?_
    refine rb_lret (S := []) X (pc := 19) Y dX5_write_19 ?_
    exact pml_f hM (by rw [w_sh_w i7, hfe]; rfl)
