/-! a day: all eat, then all age -/
def sp_f1 (r : Nat) (T : rb_T) : rb_T := if T 9 r = -1 then T else sp_feed T r
def sp_ag (r : Nat) (T : rb_T) : rb_T := sp_age T r
theorem feed_8 {X : rb_T} {r r' : Nat} {v : Int32} (h : r ≠ r') : sp_feed (u2 X 8 r' v) r = u2 (sp_feed X r) 8 r' v := by
  have e8 : u2 X 8 r' v 8 r = X 8 r := u2_ne h
  have eE : sp_eR (u2 X 8 r' v) r = sp_eR X r := by
    show sp_eats (X 5 r) (X 7 r) (u2 X 8 r' v 8 r) = _
    rw [e8]
  have eG : sp_gR (u2 X 8 r' v) r = sp_gR X r := by
    show sp_grows (X 5 r) (X 7 r) (u2 X 8 r' v 8 r) = _
    rw [e8]
  unfold sp_feed
  rw [eE, eG]
  by_cases hc : X 1 (X 9 r).toNatClampNeg < sp_eR X r
  · rw [if_pos hc, if_pos (show u2 X 8 r' v 1 (u2 X 8 r' v 9 r).toNatClampNeg < sp_eR X r from hc)]
    show u2 (u2 (u2 X 8 r' v) 1 (X 9 r).toNatClampNeg 0) 9 r (-1) = _
    rw [u2_cm (j := 8) (by decide), u2_cm (j := 8) (by decide)]
  · rw [if_neg hc, if_neg (show ¬ u2 X 8 r' v 1 (u2 X 8 r' v 9 r).toNatClampNeg < sp_eR X r from hc)]
    show u2 (u2 (u2 X 8 r' v) 1 (X 9 r).toNatClampNeg (X 1 (X 9 r).toNatClampNeg - sp_eR X r)) 7 r (sp_min (X 7 r + sp_gR X r) 99) = _
    rw [u2_cm (j := 8) (by decide), u2_cm (j := 8) (by decide)]
theorem feed_r8 {X : rb_T} {r : Nat} : sp_feed X r 8 = X 8 := by
  unfold sp_feed
  split <;> rfl
theorem f1_ag {X : rb_T} {r r' : Nat} (h : r ≠ r') : sp_f1 r (sp_ag r' X) = sp_ag r' (sp_f1 r X) := by
  unfold sp_f1
  by_cases hc : X 9 r = -1
  · rw [if_pos hc, if_pos (show sp_ag r' X 9 r = -1 from hc)]
  · rw [if_neg hc, if_neg (show ¬ sp_ag r' X 9 r = -1 from hc)]
    unfold sp_ag sp_age
    rw [feed_8 h, feed_r8]
theorem f1_it {X : rb_T} {n : Nat} : ∀ m, m ≤ n → sp_f1 n (sp_it sp_ag X m) = sp_it sp_ag (sp_f1 n X) m
  | 0, _ => rfl
  | m + 1, h => by rw [sp_it_s, sp_it_s, f1_ag (by omega), f1_it m (by omega)]
theorem d1_e {X : rb_T} {r : Nat} : sp_d1 r X = sp_ag r (sp_f1 r X) := by
  unfold sp_d1 sp_ag sp_f1
  rfl
theorem day1_e {T : rb_T} (n : Nat) : sp_it sp_d1 T n = sp_it sp_ag (sp_it sp_f1 T n) n := by
  induction n with
  | zero => rw [sp_it_0, sp_it_0, sp_it_0]
  | succ n ih => rw [sp_it_s (f := sp_d1), ih, d1_e, f1_it n (Nat.le_refl n), sp_it_s (f := sp_f1), sp_it_s (f := sp_ag)]
theorem n_f1 {T : rb_T} {r : Nat} : sp_n (sp_f1 r T) = sp_n T := by
  unfold sp_f1
  split
  · rfl
  · exact sp_n_feed
theorem n_ag {T : rb_T} {r : Nat} : sp_n (sp_ag r T) = sp_n T := sp_n_u2 (by decide)
theorem f1_ok {T : rb_T} {r : Nat} (h : sp_ok T) (hr : r < 10) : sp_ok (sp_f1 r T) := by
  unfold sp_f1
  split
  · exact h
  · rename_i hc; exact sp_feed_ok h hr hc
theorem itf_ok {T : rb_T} (h : sp_ok T) {i : Nat} (hi : i ≤ sp_n T) : sp_ok (sp_it sp_f1 T i) ∧ sp_n (sp_it sp_f1 T i) = sp_n T :=
  ⟨sp_it_ok (N := 10) (fun r T hr h => f1_ok h hr) h i (by have := h.2.1; omega), sp_it_n (fun r T => n_f1) i⟩
theorem ita_ok {T : rb_T} (h : sp_ok T) {i : Nat} (hi : i ≤ sp_n T) : sp_ok (sp_it sp_ag T i) ∧ sp_n (sp_it sp_ag T i) = sp_n T :=
  ⟨sp_it_ok (N := 10) (fun r T hr h => sp_age_ok h hr) h i (by have := h.2.1; omega), sp_it_n (fun r T => n_ag) i⟩
theorem day_e {T : rb_T} : sp_day T = u2 (sp_day3 (sp_day2 (sp_it sp_ag (sp_it sp_f1 T (sp_n T)) (sp_n T)))) 10 0 (sp_day3 (sp_day2 (sp_it sp_ag (sp_it sp_f1 T (sp_n T)) (sp_n T))) 10 0 + 1) := by rw [sp_day_eq, day1_e]
theorem d3_true {T : rb_T} {r e : Nat} (h9 : T 9 r = -1) (he : T 6 r = nI e) (ht : sp_tr T (nI e)) : sp_d3 r T = T := by
  rw [sp_d3_yes h9]
  have : sp_host T r = -1 := by unfold sp_host; rw [he, if_pos ht]
  rw [this]; exact u2_self h9
theorem d3_host {T : rb_T} {r e : Nat} (h9 : T 9 r = -1) (he : T 6 r = nI e) (ht : ¬ sp_tr T (nI e)) : sp_d3 r T = u2 T 9 r (sp_hostF T (sp_nR T r) 8) := by
  rw [sp_d3_yes h9]
  have : sp_host T r = sp_hostF T (sp_nR T r) 8 := by unfold sp_host; rw [he, if_neg ht]
  rw [this]
set_option maxRecDepth 100000 in
set_option maxHeartbeats 1000000 in
theorem lpX5_day_96 {Z : rb_Z} {G : rb_G} {h : rb_H} {T : rb_T} (hok : sp_ok T) {R : rb_T} (hR : R = u2 (sp_day3 T) 10 0 (sp_day3 T 10 0 + 1)) (X : rb_CX Z G cX5_day 2 RX5 6) (Y : rb_RT Z G none (rb_F none (ms h R))) : ∀ fu : Nat, ∀ i : Nat, i ≤ sp_n T → sp_n T + 1 ≤ i + fu → rb_WP Z G 2 96 [.ref (rb_ad G 9 0), .int (nI i)] [] (ms h (sp_it sp_d3 T i)) := by
  intro fu
  induction fu with
  | zero => intro i hi hf; omega
  | succ fu ih =>
    intro i hi hf
    obtain ⟨hki, hni⟩ := sp_day3_ok hok hi
    have h4 := hki.1
    rw [hni] at h4
    have hn10 := hok.2.1
    have hki10 := hki.2.1
    refine rb_iload_n X (pc := 96) dX5_day_96 rfl rfl ?_
    refine rb_aload_n X (pc := 97) dX5_day_97 rfl rfl ?_
    refine rc_getR X (pc := 98) fX5_7 rb_ob9 rfl dX5_day_98 ?_
    refine rb_iconst (v := 0) X (pc := 101) dX5_day_101 (by decide) ?_
    refine rc_ialdv X (pc := 102) 0 rb_ar9_0 ms_0 rfl (by decide) dX5_day_102 ?_
    refine rb_icmp_ge X (pc := 103) (tgt := 150) dX5_day_103 (by decide) (fun c103 => ?_) (fun c103 => ?_)
    · have hi2 := (sp_geI h4 (by omega) (by omega)).mp c103
      obtain rfl : i = sp_n T := by omega
      refine rb_aload_n X (pc := 150) dX5_day_150 rfl rfl ?_
      refine rc_getR X (pc := 151) fX5_7 rb_ob9 rfl dX5_day_151 ?_
      refine rb_iconst (v := 1) X (pc := 154) dX5_day_154 (by decide) ?_
      refine rb_dup2 X (pc := 155) dX5_day_155 rfl rfl ?_
      refine rc_ialdv X (pc := 156) 1 rb_ar9_0 ms_1 rfl (by decide) dX5_day_156 ?_
      refine rb_iconst (v := 1) X (pc := 157) dX5_day_157 (by decide) ?_
      refine rb_iadd X (pc := 158) dX5_day_158 ?_
      refine rc_iast X (pc := 159) 1 rb_ar9_0 ms_u1 rfl (by decide) dX5_day_159 ?_
      refine rb_vret (S := []) X (pc := 160) Y dX5_day_160 ?_
      exact ⟨rfl, by rw [hR]; rfl⟩
    · have hi2 : i < sp_n T := Nat.lt_of_not_le (fun z => c103 ((sp_geI h4 (by omega) (by omega)).mpr z))
      refine rb_aload_n X (pc := 106) dX5_day_106 rfl rfl ?_
      refine rb_iload_n X (pc := 107) dX5_day_107 rfl rfl ?_
      refine rb_iconst (v := 4) X (pc := 108) dX5_day_108 (by decide) ?_
      refine rc_callVi X (pc := 109) cvX5_its mX5_78 rb_ob9 (qI4 (by omega)) (by decide) rfl rfl (Nat.le_of_ble_eq_true rfl) dX5_day_109 ?_
      refine rb_iconst (v := (-1)) X (pc := 112) dX5_day_112 (by decide) ?_
      refine rb_icmp_ne X (pc := 113) (tgt := 144) dX5_day_113 (by decide) (fun c113 => ?_) (fun c113 => ?_)
      · refine rb_iinc X (pc := 144) dX5_day_144 rfl (sp_inc _) (by decide) rfl rfl ?_
        refine rb_goto X (pc := 147) (tgt := 96) dX5_day_147 (by decide) ?_
        first
        | exact sp_go rfl (by rw [sp_it_s, sp_d3_no c113]) (ih (i + 1) (by omega) (by omega))
        | exact sp_go rfl (by rw [sp_it_s, d3_true c113 ee c126]) (ih (i + 1) (by omega) (by omega))
        | exact sp_go rfl (by rw [sp_it_s, d3_host c113 ee (fun z => z c126)]) (ih (i + 1) (by omega) (by omega))
      · have c113 : sp_it sp_d3 T i 9 i = -1 := by simpa using c113
        obtain ⟨e, he, ee⟩ := (hki.2.2.1 i (by omega)).2.1
        refine rb_aload_n X (pc := 116) dX5_day_116 rfl rfl ?_
        refine rb_aload_n X (pc := 117) dX5_day_117 rfl rfl ?_
        refine rb_iload_n X (pc := 118) dX5_day_118 rfl rfl ?_
        refine rb_iconst (v := 1) X (pc := 119) dX5_day_119 (by decide) ?_
        refine rc_callVi X (pc := 120) cvX5_its mX5_78 rb_ob9 (qI1 (by omega)) (by decide) rfl rfl (Nat.le_of_ble_eq_true rfl) dX5_day_120 ?_
        rw [ee]
        refine rc_callVi X (pc := 123) cvX5_isTrue mX5_131 rb_ob9 (qX5_isTrue (T := (sp_it sp_d3 T i)) he) (by decide) rfl rfl (Nat.le_of_ble_eq_true rfl) dX5_day_123 ?_
        refine rb_if_ne X (pc := 126) (tgt := 144) dX5_day_126 (by decide) (fun c126 => ?_) (fun c126 => ?_)
        · (try simp only [sp_b0, Classical.not_not] at c126)
          refine rb_iinc X (pc := 144) dX5_day_144 rfl (sp_inc _) (by decide) rfl rfl ?_
          refine rb_goto X (pc := 147) (tgt := 96) dX5_day_147 (by decide) ?_
          first
          | exact sp_go rfl (by rw [sp_it_s, sp_d3_no c113]) (ih (i + 1) (by omega) (by omega))
          | exact sp_go rfl (by rw [sp_it_s, d3_true c113 ee c126]) (ih (i + 1) (by omega) (by omega))
          | exact sp_go rfl (by rw [sp_it_s, d3_host c113 ee (fun z => z c126)]) (ih (i + 1) (by omega) (by omega))
        · (try simp only [sp_b0, Classical.not_not] at c126)
          refine rb_aload_n X (pc := 129) dX5_day_129 rfl rfl ?_
          refine rc_getR X (pc := 130) fX5_7 rb_ob9 rfl dX5_day_130 ?_
          refine rb_iload_n X (pc := 133) dX5_day_133 rfl rfl ?_
          refine rb_iconst (v := 4) X (pc := 134) dX5_day_134 (by decide) ?_
          refine rc_callSi X (pc := 135) cvX5_spotOf mX5_56 (qX5_spotOf (w := 4)) (by decide) rfl rfl (Nat.le_of_ble_eq_true rfl) dX5_day_135 ?_
          refine rb_aload_n X (pc := 138) dX5_day_138 rfl rfl ?_
          refine rb_iload_n X (pc := 139) dX5_day_139 rfl rfl ?_
          refine rc_callVi X (pc := 140) cvX5_hostOf mX5_135 rb_ob9 (qX5_hostOf (T := (sp_it sp_d3 T i)) hki.1 hki.2.1 (by omega)) (by decide) rfl rfl (Nat.le_of_ble_eq_true rfl) dX5_day_140 ?_
          refine rc_iast X (pc := 143) _ rb_ar9_0 (ms_r4 (by omega)) rfl (by omega) dX5_day_143 ?_
          refine rb_iinc X (pc := 144) dX5_day_144 rfl (sp_inc _) (by decide) rfl rfl ?_
          refine rb_goto X (pc := 147) (tgt := 96) dX5_day_147 (by decide) ?_
          first
          | exact sp_go rfl (by rw [sp_it_s, sp_d3_no c113]) (ih (i + 1) (by omega) (by omega))
          | exact sp_go rfl (by rw [sp_it_s, d3_true c113 ee c126]) (ih (i + 1) (by omega) (by omega))
          | exact sp_go rfl (by rw [sp_it_s, d3_host c113 ee (fun z => z c126)]) (ih (i + 1) (by omega) (by omega))
set_option maxRecDepth 100000 in
set_option maxHeartbeats 1000000 in
theorem lpX5_day_77 {Z : rb_Z} {G : rb_G} {h : rb_H} {T : rb_T} (hok : sp_ok T) {R : rb_T} (hR : R = u2 (sp_day3 (sp_day2 T)) 10 0 (sp_day3 (sp_day2 T) 10 0 + 1)) (X : rb_CX Z G cX5_day 2 RX5 6) (Y : rb_RT Z G none (rb_F none (ms h R))) : ∀ fu : Nat, ∀ i : Nat, i ≤ 8 → 9 ≤ i + fu → rb_WP Z G 2 77 [.ref (rb_ad G 9 0), .int (nI i)] [] (ms h (sp_it (fun q T => sp_thd T q) T i)) := by
  intro fu
  induction fu with
  | zero => intro i hi hf; omega
  | succ fu ih =>
    intro i hi hf
    have hki := sp_day2_ok hok hi
    refine rb_iload_n X (pc := 77) dX5_day_77 rfl rfl ?_
    refine rb_bipush (v := 8) X (pc := 78) dX5_day_78 (by decide) ?_
    refine rb_icmp_ge X (pc := 80) (tgt := 94) dX5_day_80 (by decide) (fun c80 => ?_) (fun c80 => ?_)
    · have hi2 := (sp_geI (n := 8) rfl (by omega) (by omega)).mp c80
      obtain rfl : i = 8 := by omega
      refine rb_iconst (v := 0) X (pc := 94) dX5_day_94 (by decide) ?_
      refine rb_istore_n X (pc := 95) dX5_day_95 rfl (by decide) rfl rfl ?_
      exact sp_go rfl (by rw [sp_it_0]) (lpX5_day_96 (T := sp_it (fun q T => sp_thd T q) T 8) hki hR X Y (sp_n (sp_it (fun q T => sp_thd T q) T 8) + 1) 0 (Nat.zero_le _) (Nat.le_add_left _ _))
    · have hi2 : i < 8 := Nat.lt_of_not_le (fun z => c80 ((sp_geI (n := 8) rfl (by omega) (by omega)).mpr z))
      refine rb_aload_n X (pc := 83) dX5_day_83 rfl rfl ?_
      refine rb_iload_n X (pc := 84) dX5_day_84 rfl rfl ?_
      refine rc_callVv X (pc := 85) cvX5_makesThird mX5_160 rb_ob9 (qX5_makesThird hki) (by decide) rfl rfl (Nat.le_of_ble_eq_true rfl) dX5_day_85 ?_
      refine rb_iinc X (pc := 88) dX5_day_88 rfl (sp_inc _) (by decide) rfl rfl ?_
      refine rb_goto X (pc := 91) (tgt := 77) dX5_day_91 (by decide) ?_
      exact sp_go rfl (by rw [sp_it_s]) (ih (i + 1) (by omega) (by omega))
set_option maxRecDepth 100000 in
set_option maxHeartbeats 1000000 in
theorem lpX5_day_35 {Z : rb_Z} {G : rb_G} {h : rb_H} {T : rb_T} (hok : sp_ok T) {R : rb_T} (hR : R = u2 (sp_day3 (sp_day2 (sp_it sp_ag T (sp_n T)))) 10 0 (sp_day3 (sp_day2 (sp_it sp_ag T (sp_n T))) 10 0 + 1)) (X : rb_CX Z G cX5_day 2 RX5 6) (Y : rb_RT Z G none (rb_F none (ms h R))) : ∀ fu : Nat, ∀ i : Nat, i ≤ sp_n T → sp_n T + 1 ≤ i + fu → rb_WP Z G 2 35 [.ref (rb_ad G 9 0), .int (nI i)] [] (ms h (sp_it sp_ag T i)) := by
  intro fu
  induction fu with
  | zero => intro i hi hf; omega
  | succ fu ih =>
    intro i hi hf
    obtain ⟨hki, hni⟩ := ita_ok hok hi
    have h4 := hki.1
    rw [hni] at h4
    have hn10 := hok.2.1
    have hki10 := hki.2.1
    refine rb_iload_n X (pc := 35) dX5_day_35 rfl rfl ?_
    refine rb_aload_n X (pc := 36) dX5_day_36 rfl rfl ?_
    refine rc_getR X (pc := 37) fX5_7 rb_ob9 rfl dX5_day_37 ?_
    refine rb_iconst (v := 0) X (pc := 40) dX5_day_40 (by decide) ?_
    refine rc_ialdv X (pc := 41) 0 rb_ar9_0 ms_0 rfl (by decide) dX5_day_41 ?_
    refine rb_icmp_ge X (pc := 42) (tgt := 75) dX5_day_42 (by decide) (fun c42 => ?_) (fun c42 => ?_)
    · have hi2 := (sp_geI h4 (by omega) (by omega)).mp c42
      obtain rfl : i = sp_n T := by omega
      refine rb_iconst (v := 0) X (pc := 75) dX5_day_75 (by decide) ?_
      refine rb_istore_n X (pc := 76) dX5_day_76 rfl (by decide) rfl rfl ?_
      exact sp_go rfl (by rw [sp_it_0]) (lpX5_day_77 (T := sp_it sp_ag T (sp_n T)) hki hR X Y 9 0 (by omega) (by omega))
    · have hi2 : i < sp_n T := Nat.lt_of_not_le (fun z => c42 ((sp_geI h4 (by omega) (by omega)).mpr z))
      refine rb_aload_n X (pc := 45) dX5_day_45 rfl rfl ?_
      refine rc_getR X (pc := 46) fX5_7 rb_ob9 rfl dX5_day_46 ?_
      refine rb_iload_n X (pc := 49) dX5_day_49 rfl rfl ?_
      refine rb_iconst (v := 3) X (pc := 50) dX5_day_50 (by decide) ?_
      refine rc_callSi X (pc := 51) cvX5_spotOf mX5_56 (qX5_spotOf (w := 3)) (by decide) rfl rfl (Nat.le_of_ble_eq_true rfl) dX5_day_51 ?_
      refine rb_aload_n X (pc := 54) dX5_day_54 rfl rfl ?_
      refine rb_iload_n X (pc := 55) dX5_day_55 rfl rfl ?_
      refine rb_iconst (v := 3) X (pc := 56) dX5_day_56 (by decide) ?_
      refine rc_callVi X (pc := 57) cvX5_its mX5_78 rb_ob9 (qI3 (by omega)) (by decide) rfl rfl (Nat.le_of_ble_eq_true rfl) dX5_day_57 ?_
      refine rb_iconst (v := 1) X (pc := 60) dX5_day_60 (by decide) ?_
      refine rb_iadd X (pc := 61) dX5_day_61 ?_
      refine rb_sipush (v := 999) X (pc := 62) dX5_day_62 (by decide) ?_
      refine rc_callSi X (pc := 65) cvX5_heldTo mX5_138 (qX5_heldTo _ _) (by decide) rfl rfl (Nat.le_of_ble_eq_true rfl) dX5_day_65 ?_
      refine rc_iast X (pc := 68) _ rb_ar9_0 (ms_r3 (by omega)) rfl (by omega) dX5_day_68 ?_
      refine rb_iinc X (pc := 69) dX5_day_69 rfl (sp_inc _) (by decide) rfl rfl ?_
      refine rb_goto X (pc := 72) (tgt := 35) dX5_day_72 (by decide) ?_
      exact sp_go rfl (by rw [sp_it_s]; rfl) (ih (i + 1) (by omega) (by omega))
set_option maxRecDepth 100000 in
set_option maxHeartbeats 1000000 in
theorem lpX5_day_2 {Z : rb_Z} {G : rb_G} {h : rb_H} {T : rb_T} (hok : sp_ok T) (X : rb_CX Z G cX5_day 2 RX5 6) (Y : rb_RT Z G none (rb_F none (ms h (sp_day T)))) : ∀ fu : Nat, ∀ i : Nat, i ≤ sp_n T → sp_n T + 1 ≤ i + fu → rb_WP Z G 2 2 [.ref (rb_ad G 9 0), .int (nI i)] [] (ms h (sp_it sp_f1 T i)) := by
  intro fu
  induction fu with
  | zero => intro i hi hf; omega
  | succ fu ih =>
    intro i hi hf
    obtain ⟨hki, hni⟩ := itf_ok hok hi
    have h4 := hki.1
    rw [hni] at h4
    have hn10 := hok.2.1
    have hki10 := hki.2.1
    refine rb_iload_n X (pc := 2) dX5_day_2 rfl rfl ?_
    refine rb_aload_n X (pc := 3) dX5_day_3 rfl rfl ?_
    refine rc_getR X (pc := 4) fX5_7 rb_ob9 rfl dX5_day_4 ?_
    refine rb_iconst (v := 0) X (pc := 7) dX5_day_7 (by decide) ?_
    refine rc_ialdv X (pc := 8) 0 rb_ar9_0 ms_0 rfl (by decide) dX5_day_8 ?_
    refine rb_icmp_ge X (pc := 9) (tgt := 33) dX5_day_9 (by decide) (fun c9 => ?_) (fun c9 => ?_)
    · have hi2 := (sp_geI h4 (by omega) (by omega)).mp c9
      obtain rfl : i = sp_n T := by omega
      refine rb_iconst (v := 0) X (pc := 33) dX5_day_33 (by decide) ?_
      refine rb_istore_n X (pc := 34) dX5_day_34 rfl (by decide) rfl rfl ?_
      exact sp_go rfl (by rw [sp_it_0]) (lpX5_day_35 (T := sp_it sp_f1 T (sp_n T)) hki (by rw [hni]; exact day_e) X Y (sp_n T + 1) 0 (Nat.zero_le _) (by omega))
    · have hi2 : i < sp_n T := Nat.lt_of_not_le (fun z => c9 ((sp_geI h4 (by omega) (by omega)).mpr z))
      refine rb_aload_n X (pc := 12) dX5_day_12 rfl rfl ?_
      refine rb_iload_n X (pc := 13) dX5_day_13 rfl rfl ?_
      refine rb_iconst (v := 4) X (pc := 14) dX5_day_14 (by decide) ?_
      refine rc_callVi X (pc := 15) cvX5_its mX5_78 rb_ob9 (qI4 (by omega)) (by decide) rfl rfl (Nat.le_of_ble_eq_true rfl) dX5_day_15 ?_
      refine rb_iconst (v := (-1)) X (pc := 18) dX5_day_18 (by decide) ?_
      refine rb_icmp_eq X (pc := 19) (tgt := 27) dX5_day_19 (by decide) (fun c19 => ?_) (fun c19 => ?_)
      · refine rb_iinc X (pc := 27) dX5_day_27 rfl (sp_inc _) (by decide) rfl rfl ?_
        refine rb_goto X (pc := 30) (tgt := 2) dX5_day_30 (by decide) ?_
        first
        | exact sp_go rfl (by rw [sp_it_s, sp_f1, if_neg c19]) (ih (i + 1) (by omega) (by omega))
        | exact sp_go rfl (by rw [sp_it_s, sp_f1, if_pos (by first | exact c19 | simpa using c19)]) (ih (i + 1) (by omega) (by omega))
      · obtain ⟨p, hp1, hp⟩ := sp_pl_ne (hki.2.2.1 i (by omega)).2.2.2.2 c19
        refine rb_aload_n X (pc := 22) dX5_day_22 rfl rfl ?_
        refine rb_iload_n X (pc := 23) dX5_day_23 rfl rfl ?_
        refine rc_callVv X (pc := 24) cvX5_feeds mX5_156 rb_ob9 (qX5_feeds (T := sp_it sp_f1 T i) (r := i) (by omega) hp1 hp) (by decide) rfl rfl (Nat.le_of_ble_eq_true rfl) dX5_day_24 ?_
        refine rb_iinc X (pc := 27) dX5_day_27 rfl (sp_inc _) (by decide) rfl rfl ?_
        refine rb_goto X (pc := 30) (tgt := 2) dX5_day_30 (by decide) ?_
        first
        | exact sp_go rfl (by rw [sp_it_s, sp_f1, if_neg c19]) (ih (i + 1) (by omega) (by omega))
        | exact sp_go rfl (by rw [sp_it_s, sp_f1, if_pos (by first | exact c19 | simpa using c19)]) (ih (i + 1) (by omega) (by omega))
set_option maxRecDepth 100000 in
set_option maxHeartbeats 1000000 in
theorem qX5_day {G : rb_G} {h : rb_H} {T : rb_T} (hok : sp_ok T) : rb_M G 6 yX5_day cX5_day 2 none [.ref (rb_ad G 9 0)] (ms h T) (rb_F none (ms h (sp_day T))) := by
  refine rb_meth (L := [.ref (rb_ad G 9 0), .null]) (by decide) (Nat.le_of_ble_eq_true rfl) rfl (fun Z X Y => ?_)
  have X : rb_CX Z G cX5_day 2 RX5 6 := X
  refine rb_iconst (v := 0) X (pc := 0) dX5_day_0 (by decide) ?_
  refine rb_istore_n X (pc := 1) dX5_day_1 rfl (by decide) rfl rfl ?_
  exact sp_go rfl (by rw [sp_it_0]) (lpX5_day_2 hok X Y (sp_n T + 1) 0 (by omega) (by omega))
set_option maxRecDepth 100000 in
set_option maxHeartbeats 1000000 in
theorem lpX5_daysGo_2 {Z : rb_Z} {G : rb_G} {h : rb_H} {T : rb_T} (hok : sp_ok T) {n : Nat} (hn : n < 2 ^ 30) (X : rb_CX Z G cX5_daysGo 3 RX5 7) (Y : rb_RT Z G none (rb_F none (ms h (sp_days T n)))) : ∀ fu : Nat, ∀ i : Nat, i ≤ n → n + 1 ≤ i + fu → rb_WP Z G 3 2 [.ref (rb_ad G 9 0), .int (nI n), .int (nI i)] [] (ms h (sp_days T i)) := by
  intro fu
  induction fu with
  | zero => intro i hi hf; omega
  | succ fu ih =>
    intro i hi hf
    have hki := sp_days_ok hok i
    refine rb_iload_n X (pc := 2) dX5_daysGo_2 rfl rfl ?_
    refine rb_iload_n X (pc := 3) dX5_daysGo_3 rfl rfl ?_
    refine rb_icmp_ge X (pc := 4) (tgt := 17) dX5_daysGo_4 (by decide) (fun c4 => ?_) (fun c4 => ?_)
    · have hi2 := (sp_geI (n := n) rfl (by omega) (by omega)).mp c4
      obtain rfl : i = n := by omega
      refine rb_vret (S := []) X (pc := 17) Y dX5_daysGo_17 ?_
      exact ⟨rfl, rfl⟩
    · have hi2 : i < n := Nat.lt_of_not_le (fun z => c4 ((sp_geI (n := n) rfl (by omega) (by omega)).mpr z))
      refine rb_aload_n X (pc := 7) dX5_daysGo_7 rfl rfl ?_
      refine rc_callVv X (pc := 8) cvX5_day mX5_163 rb_ob9 (qX5_day (T := sp_days T i) hki) (by decide) rfl rfl (Nat.le_of_ble_eq_true rfl) dX5_daysGo_8 ?_
      refine rb_iinc X (pc := 11) dX5_daysGo_11 rfl (sp_inc _) (by decide) rfl rfl ?_
      refine rb_goto X (pc := 14) (tgt := 2) dX5_daysGo_14 (by decide) ?_
      exact sp_go rfl rfl (ih (i + 1) (by omega) (by omega))
set_option maxRecDepth 100000 in
set_option maxHeartbeats 1000000 in
theorem qX5_daysGo {G : rb_G} {h : rb_H} {T : rb_T} (hok : sp_ok T) {n : Nat} (hn : n < 2 ^ 30) : rb_M G 7 yX5_daysGo cX5_daysGo 3 none [.ref (rb_ad G 9 0), .int (nI n)] (ms h T) (rb_F none (ms h (sp_days T n))) := by
  refine rb_meth (L := [.ref (rb_ad G 9 0), .int (nI n), .null]) (by decide) (Nat.le_of_ble_eq_true rfl) rfl (fun Z X Y => ?_)
  have X : rb_CX Z G cX5_daysGo 3 RX5 7 := X
  refine rb_iconst (v := 0) X (pc := 0) dX5_daysGo_0 (by decide) ?_
  refine rb_istore_n X (pc := 1) dX5_daysGo_1 rfl (by decide) rfl rfl ?_
  exact sp_go rfl rfl (lpX5_daysGo_2 hok hn X Y (n + 1) 0 (by omega) (by omega))
abbrev mo (h : rb_H) (T : rb_T) : rb_H := rb_row h 9 3 (enc T)
theorem mo_3 {h : rb_H} {T : rb_T} : (mo h T).1 9 3 = enc T := rb_row_same
theorem mo_mo {h : rb_H} {T T' : rb_T} : mo (mo h T) T' = mo h T' := rb_row_row
theorem qLa {G : rb_G} {h : rb_H} {T : rb_T} : rb_M G 0 yX5_laysAside cX5_laysAside 2 none [.ref (rb_ad G 9 0)] (ms h T) (rb_F none (ms (mo h T) T)) := by
  have e := qX5_laysAside (G := G) (h := ms h T) (f := enc T) ms_at
  rw [rb_row_sw (by decide)] at e
  exact e
theorem qTb {G : rb_G} {h : rb_H} {T T0 : rb_T} {v : Int32} (h3 : h.1 9 3 = enc T0) : rb_M G 0 yX5_takesBack cX5_takesBack 3 (some .int) [.ref (rb_ad G 9 0), .int v] (ms h T) (rb_F (some (.int (v))) (ms h T0)) := by
  have e := qX5_takesBack (G := G) (h := ms h T) (f := enc T0) ((ms_ne (by decide)).trans h3) (v := v)
  rw [rb_row_row] at e
  exact e
theorem qSv {G : rb_G} {h : rb_H} {T : rb_T} : rb_M G 0 yX5_saves cX5_saves 2 none [.ref (rb_ad G 9 0)] (ms h T) (rb_F none (ms (rb_row h 9 2 (enc T)) T)) := by
  have e := qX5_saves (G := G) (h := ms h T) (f := enc T) ms_at
  rw [rb_row_sw (by decide)] at e
  exact e
theorem qPb {G : rb_G} {h : rb_H} {T T0 : rb_T} (h2 : h.1 9 2 = enc T0) : rb_M G 0 yX5_putsBack cX5_putsBack 2 none [.ref (rb_ad G 9 0)] (ms h T) (rb_F none (ms h T0)) := by
  have e := qX5_putsBack (G := G) (h := ms h T) (f := enc T0) ((ms_ne (by decide)).trans h2)
  rw [rb_row_row] at e
  exact e
set_option maxRecDepth 100000 in
set_option maxHeartbeats 1000000 in
theorem qX5_behind {G : rb_G} {h : rb_H} {T : rb_T} (hok : sp_ok T) {k n : Nat} (hk : k < 77) (hn : n < 2 ^ 30) : rb_M G 8 yX5_behind cX5_behind 3 (some .int) [.ref (rb_ad G 9 0), .int (nI k), .int (nI n)] (ms h T) (rb_F (some (.int (enc (sp_days T n) k))) (ms (mo h T) T)) := by
  refine rb_meth (L := [.ref (rb_ad G 9 0), .int (nI k), .int (nI n)]) (by decide) (Nat.le_of_ble_eq_true rfl) rfl (fun Z X Y => ?_)
  have X : rb_CX Z G cX5_behind 3 RX5 8 := X
  refine rb_aload_n X (pc := 0) dX5_behind_0 rfl rfl ?_
  refine rc_callVv X (pc := 1) cvX5_laysAside mX5_184 rb_ob9 qLa (by decide) rfl rfl (Nat.le_of_ble_eq_true rfl) dX5_behind_1 ?_
  refine rb_aload_n X (pc := 4) dX5_behind_4 rfl rfl ?_
  refine rb_iload_n X (pc := 5) dX5_behind_5 rfl rfl ?_
  refine rc_callVv X (pc := 6) cvX5_daysGo mX5_168 rb_ob9 (qX5_daysGo hok hn) (by decide) rfl rfl (Nat.le_of_ble_eq_true rfl) dX5_behind_6 ?_
  refine rb_aload_n X (pc := 9) dX5_behind_9 rfl rfl ?_
  refine rb_aload_n X (pc := 10) dX5_behind_10 rfl rfl ?_
  refine rc_getR X (pc := 11) fX5_7 rb_ob9 rfl dX5_behind_11 ?_
  refine rb_iload_n X (pc := 14) dX5_behind_14 rfl rfl ?_
  refine rc_ialdv X (pc := 15) k rb_ar9_0 (congrFun ms_at _) rfl hk dX5_behind_15 ?_
  refine rc_callVi X (pc := 16) cvX5_takesBack mX5_187 rb_ob9 (qTb mo_3) (by decide) rfl rfl (Nat.le_of_ble_eq_true rfl) dX5_behind_16 ?_
  refine rb_iret (S := []) X (pc := 19) Y dX5_behind_19 ?_
  exact ⟨rfl, rfl⟩
def k_fst (T : rb_T) (k : Nat) (v : Int32) : Nat := fa_first (fun n => decide (enc (sp_days T n) k = v)) 61
set_option maxRecDepth 100000 in
set_option maxHeartbeats 1000000 in
theorem lpX5_firstAs_6 {Z : rb_Z} {G : rb_G} {h : rb_H} {T : rb_T} (hok : sp_ok T) {k : Nat} {v : Int32} (hk : k < 77) (X : rb_CX Z G cX5_firstAs 5 RX5 8) (Y : rb_RT Z G (some .int) (rb_F (some (.int (if k_fst T k v < 61 then nI (k_fst T k v) else -1000000004))) (if k_fst T k v < 61 then ms (mo h T) T else rb_u (ms (mo h T) T) 9 4 3 ((ms (mo h T) T).1 9 4 3 + 1)))) : ∀ fu : Nat, ∀ i : Nat, i ≤ 61 → 62 ≤ i + fu → (∀ c, c < i → decide (enc (sp_days T c) k = v) = false) → rb_WP Z G 5 6 [.ref (rb_ad G 9 0), .int (nI k), .int v, .int (nI i), .null] [] (ms (mo h T) (sp_days T i)) := by
  intro fu
  induction fu with
  | zero => intro i hi hf hno; omega
  | succ fu ih =>
    intro i hi hf hno
    have hki := sp_days_ok hok i
    refine rb_iload_n X (pc := 6) dX5_firstAs_6 rfl rfl ?_
    refine rb_bipush (v := 60) X (pc := 7) dX5_firstAs_7 (by decide) ?_
    refine rb_icmp_gt X (pc := 9) (tgt := 32) dX5_firstAs_9 (by decide) (fun c9 => ?_) (fun c9 => ?_)
    · have h1 := (nI_ltI (a := 60) (by omega) (by omega)).mp c9
      have i61 : i = 61 := by omega
      have hkk : k_fst T k v = i := by rw [i61] at hno ⊢; exact fa_first_none hno
      refine rb_aload_n X (pc := 32) dX5_firstAs_32 rfl rfl ?_
      refine rb_iload_n X (pc := 33) dX5_firstAs_33 rfl rfl ?_
      refine rc_callVi X (pc := 34) cvX5_takesBack mX5_187 rb_ob9 (qTb mo_3) (by decide) rfl rfl (Nat.le_of_ble_eq_true rfl) dX5_firstAs_34 ?_
      refine rb_istore X (pc := 37) dX5_firstAs_37 (by decide) rfl rfl ?_
      refine rb_iload X (pc := 39) dX5_firstAs_39 rfl ?_
      refine rb_bipush (v := 60) X (pc := 41) dX5_firstAs_41 (by decide) ?_
      refine rb_icmp_le X (pc := 43) (tgt := 55) dX5_firstAs_43 (by decide) (fun c43 => ?_) (fun c43 => ?_)
      · have h2 : i ≤ 60 := (nI_leI (b := 60) (by omega) (by omega)).mp c43
        refine rb_iload X (pc := 55) dX5_firstAs_55 rfl ?_
        refine rb_iret (S := []) X (pc := 57) Y dX5_firstAs_57 ?_
        first
        | (exfalso; omega)
        | exact ⟨by rw [hkk, if_pos (by omega)], by rw [hkk, if_pos (by omega)]⟩
        | exact ⟨by rw [hkk, if_neg (by omega)], by rw [hkk, if_neg (by omega)]⟩
      · have h2 : ¬ i ≤ 60 := fun z => c43 ((nI_leI (b := 60) (by omega) (by omega)).mpr z)
        refine rb_aload_n X (pc := 46) dX5_firstAs_46 rfl rfl ?_
        refine rb_ldc X (pc := 47) dX5_firstAs_47 kX5_196 ?_
        refine rc_callVi X (pc := 49) cvX5_finds mX5_74 rb_ob9 (qX5_finds (i := 3) (by decide) (by decide)) (by decide) rfl rfl (Nat.le_of_ble_eq_true rfl) dX5_firstAs_49 ?_
        refine rb_goto X (pc := 52) (tgt := 57) dX5_firstAs_52 (by decide) ?_
        refine rb_iret (S := []) X (pc := 57) Y dX5_firstAs_57 ?_
        first
        | (exfalso; omega)
        | exact ⟨by rw [hkk, if_pos (by omega)], by rw [hkk, if_pos (by omega)]⟩
        | exact ⟨by rw [hkk, if_neg (by omega)], by rw [hkk, if_neg (by omega)]⟩
    · have h1 : ¬ 60 < i := fun z => c9 ((nI_ltI (a := 60) (by omega) (by omega)).mpr z)
      refine rb_aload_n X (pc := 12) dX5_firstAs_12 rfl rfl ?_
      refine rc_getR X (pc := 13) fX5_7 rb_ob9 rfl dX5_firstAs_13 ?_
      refine rb_iload_n X (pc := 16) dX5_firstAs_16 rfl rfl ?_
      refine rc_ialdv X (pc := 17) k rb_ar9_0 (congrFun ms_at _) rfl hk dX5_firstAs_17 ?_
      refine rb_iload_n X (pc := 18) dX5_firstAs_18 rfl rfl ?_
      refine rb_icmp_eq X (pc := 19) (tgt := 32) dX5_firstAs_19 (by decide) (fun c19 => ?_) (fun c19 => ?_)
      · have hkk : k_fst T k v = i := fa_first_eq (by omega) (decide_eq_true c19) hno
        refine rb_aload_n X (pc := 32) dX5_firstAs_32 rfl rfl ?_
        refine rb_iload_n X (pc := 33) dX5_firstAs_33 rfl rfl ?_
        refine rc_callVi X (pc := 34) cvX5_takesBack mX5_187 rb_ob9 (qTb mo_3) (by decide) rfl rfl (Nat.le_of_ble_eq_true rfl) dX5_firstAs_34 ?_
        refine rb_istore X (pc := 37) dX5_firstAs_37 (by decide) rfl rfl ?_
        refine rb_iload X (pc := 39) dX5_firstAs_39 rfl ?_
        refine rb_bipush (v := 60) X (pc := 41) dX5_firstAs_41 (by decide) ?_
        refine rb_icmp_le X (pc := 43) (tgt := 55) dX5_firstAs_43 (by decide) (fun c43 => ?_) (fun c43 => ?_)
        · have h2 : i ≤ 60 := (nI_leI (b := 60) (by omega) (by omega)).mp c43
          refine rb_iload X (pc := 55) dX5_firstAs_55 rfl ?_
          refine rb_iret (S := []) X (pc := 57) Y dX5_firstAs_57 ?_
          first
          | (exfalso; omega)
          | exact ⟨by rw [hkk, if_pos (by omega)], by rw [hkk, if_pos (by omega)]⟩
          | exact ⟨by rw [hkk, if_neg (by omega)], by rw [hkk, if_neg (by omega)]⟩
        · have h2 : ¬ i ≤ 60 := fun z => c43 ((nI_leI (b := 60) (by omega) (by omega)).mpr z)
          refine rb_aload_n X (pc := 46) dX5_firstAs_46 rfl rfl ?_
          refine rb_ldc X (pc := 47) dX5_firstAs_47 kX5_196 ?_
          refine rc_callVi X (pc := 49) cvX5_finds mX5_74 rb_ob9 (qX5_finds (i := 3) (by decide) (by decide)) (by decide) rfl rfl (Nat.le_of_ble_eq_true rfl) dX5_firstAs_49 ?_
          refine rb_goto X (pc := 52) (tgt := 57) dX5_firstAs_52 (by decide) ?_
          refine rb_iret (S := []) X (pc := 57) Y dX5_firstAs_57 ?_
          first
          | (exfalso; omega)
          | exact ⟨by rw [hkk, if_pos (by omega)], by rw [hkk, if_pos (by omega)]⟩
          | exact ⟨by rw [hkk, if_neg (by omega)], by rw [hkk, if_neg (by omega)]⟩
      · refine rb_aload_n X (pc := 22) dX5_firstAs_22 rfl rfl ?_
        refine rc_callVv X (pc := 23) cvX5_day mX5_163 rb_ob9 (qX5_day (T := sp_days T i) hki) (by decide) rfl rfl (Nat.le_of_ble_eq_true rfl) dX5_firstAs_23 ?_
        refine rb_iinc X (pc := 26) dX5_firstAs_26 rfl (sp_inc _) (by decide) rfl rfl ?_
        refine rb_goto X (pc := 29) (tgt := 6) dX5_firstAs_29 (by decide) ?_
        exact sp_go rfl rfl (ih (i + 1) (by omega) (by omega) (fun c hc => by
          by_cases e : c = i
          · subst e; exact decide_eq_false c19
          · exact hno c (by omega)))
set_option maxRecDepth 100000 in
set_option maxHeartbeats 1000000 in
theorem qX5_firstAs {G : rb_G} {h : rb_H} {T : rb_T} (hok : sp_ok T) {k : Nat} {v : Int32} (hk : k < 77) : rb_M G 8 yX5_firstAs cX5_firstAs 5 (some .int) [.ref (rb_ad G 9 0), .int (nI k), .int v] (ms h T) (rb_F (some (.int (if k_fst T k v < 61 then nI (k_fst T k v) else -1000000004))) (if k_fst T k v < 61 then ms (mo h T) T else rb_u (ms (mo h T) T) 9 4 3 ((ms (mo h T) T).1 9 4 3 + 1))) := by
  refine rb_meth (L := [.ref (rb_ad G 9 0), .int (nI k), .int v, .null, .null]) (by decide) (Nat.le_of_ble_eq_true rfl) rfl (fun Z X Y => ?_)
  have X : rb_CX Z G cX5_firstAs 5 RX5 8 := X
  refine rb_aload_n X (pc := 0) dX5_firstAs_0 rfl rfl ?_
  refine rc_callVv X (pc := 1) cvX5_laysAside mX5_184 rb_ob9 qLa (by decide) rfl rfl (Nat.le_of_ble_eq_true rfl) dX5_firstAs_1 ?_
  refine rb_iconst (v := 0) X (pc := 4) dX5_firstAs_4 (by decide) ?_
  refine rb_istore_n X (pc := 5) dX5_firstAs_5 rfl (by decide) rfl rfl ?_
  exact sp_go rfl rfl (lpX5_firstAs_6 hok hk X Y 62 0 (by omega) (by omega) (fun c hc => absurd hc (by omega)))
set_option maxRecDepth 100000 in
set_option maxHeartbeats 1000000 in
theorem qX5_wrongLodger {G : rb_G} {h : rb_H} {T : rb_T} {r : Nat} (hr : r < 10) : rb_M G 2 yX5_wrongLodger cX5_wrongLodger 2 (some .int) [.ref (rb_ad G 9 0), .int (nI r)] (ms h T) (rb_F (some (.int (if T 9 r = -1 then -1000000005 else 0))) (ms h T)) := by
  refine rb_meth (L := [.ref (rb_ad G 9 0), .int (nI r)]) (by decide) (Nat.le_of_ble_eq_true rfl) rfl (fun Z X Y => ?_)
  have X : rb_CX Z G cX5_wrongLodger 2 RX5 2 := X
  refine rb_aload_n X (pc := 0) dX5_wrongLodger_0 rfl rfl ?_
  refine rb_iload_n X (pc := 1) dX5_wrongLodger_1 rfl rfl ?_
  refine rb_iconst (v := 4) X (pc := 2) dX5_wrongLodger_2 (by decide) ?_
  refine rc_callVi X (pc := 3) cvX5_its mX5_78 rb_ob9 (qI4 (by omega)) (by decide) rfl rfl (Nat.le_of_ble_eq_true rfl) dX5_wrongLodger_3 ?_
  refine rb_iconst (v := (-1)) X (pc := 6) dX5_wrongLodger_6 (by decide) ?_
  refine rb_icmp_ne X (pc := 7) (tgt := 15) dX5_wrongLodger_7 (by decide) (fun c7 => ?_) (fun c7 => ?_)
  · refine rb_iconst (v := 0) X (pc := 15) dX5_wrongLodger_15 (by decide) ?_
    refine rb_iret (S := []) X (pc := 16) Y dX5_wrongLodger_16 ?_
    exact ⟨by simp_all, rfl⟩
  · refine rb_ldc X (pc := 10) dX5_wrongLodger_10 kX5_134 ?_
    refine rb_goto X (pc := 12) (tgt := 16) dX5_wrongLodger_12 (by decide) ?_
    refine rb_iret (S := []) X (pc := 16) Y dX5_wrongLodger_16 ?_
    exact ⟨by simp_all, rfl⟩
