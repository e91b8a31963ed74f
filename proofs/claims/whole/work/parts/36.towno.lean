theorem sp_it_0 {f : Nat → rb_T → rb_T} {T : rb_T} : sp_it f T 0 = T := rfl
theorem sp_d3_yes {T : rb_T} {r : Nat} (h : T 9 r = -1) : sp_d3 r T = u2 T 9 r (sp_host T r) := if_pos h
theorem sp_d3_no {T : rb_T} {r : Nat} (h : ¬ T 9 r = -1) : sp_d3 r T = T := if_neg h
theorem sp_d1_yes {T : rb_T} {r : Nat} (h : T 9 r = -1) : sp_d1 r T = sp_age T r := by unfold sp_d1; rw [if_pos h]
theorem sp_d1_no {T : rb_T} {r : Nat} (h : ¬ T 9 r = -1) : sp_d1 r T = sp_age (sp_feed T r) r := by unfold sp_d1; rw [if_neg h]
theorem sp_day_eq {T : rb_T} : sp_day T = u2 (sp_day3 (sp_day2 (sp_it sp_d1 T (sp_n T)))) 10 0 (sp_day3 (sp_day2 (sp_it sp_d1 T (sp_n T))) 10 0 + 1) := rfl
set_option maxRecDepth 100000 in
set_option maxHeartbeats 1000000 in
theorem lpX3_makeThird_34 {Z : rb_Z} {G : rb_G} {h : rb_H} {t : Nat} {T : rb_T} (ht : t < 3) (hok : sp_ok T) {q : Nat} (he : ¬ sp_pair T q = 16) (hnf : sp_n T < 10) (hor : ¬ sp_onr T (nI (sp_pair T q)) (sp_n T) = true) (X : rb_CX Z G cX3_makeThird 6 RX3 2) (Y : rb_RT Z G none (rb_F none (tw h t (sp_thd T q)))) : ∀ fu : Nat, ∀ i : Nat, i ≤ sp_n T → sp_n T + 1 ≤ i + fu → rb_WP Z G 6 34 [.ref (rb_ad G t 0), .int (nI q), .int (nI (sp_pair T q)), .int (sp_two T q (nI (sp_pair T q)) i).1, .int (nI (sp_two T q (nI (sp_pair T q)) i).2), .int (nI i)] [] (tw h t T) := by
  intro fu
  induction fu with
  | zero => intro i hi hf; omega
  | succ fu ih =>
    intro i hi hf
    obtain ⟨ht2, s, -, -⟩ := sp_two_ok hok (q := q) (e := nI (sp_pair T q)) i (by omega)
    refine rb_iload X (pc := 34) dX3_makeThird_34 rfl ?_
    refine rb_aload_n X (pc := 36) dX3_makeThird_36 rfl rfl ?_
    refine rc_getI X (pc := 37) fX3_24 (rb_obT ht) rfl rb_tf4 dX3_makeThird_37 ?_
    refine rb_icmp_ge X (pc := 40) (tgt := 90) dX3_makeThird_40 (by decide) (fun c40 => ?_) (fun c40 => ?_)
    · have hi2 := (sp_geI hok.1 (by omega) (by omega)).mp c40
      obtain rfl : i = sp_n T := by omega
      have htw : sp_two T q (nI (sp_pair T q)) (sp_n T) = sp_two T q (nI (sp_pair T q)) (sp_n T) := rfl
      refine rb_aload_n X (pc := 90) dX3_makeThird_90 rfl rfl ?_
      refine rb_iconst (v := 0) X (pc := 91) dX3_makeThird_91 (by decide) ?_
      refine rb_iload_n X (pc := 92) dX3_makeThird_92 rfl rfl ?_
      refine rb_iload_n X (pc := 93) dX3_makeThird_93 rfl rfl ?_
      refine rb_iconst (v := 2) X (pc := 94) dX3_makeThird_94 (by decide) ?_
      refine rb_idiv X (pc := 95) dX3_makeThird_95 (by decide) ?_
      refine rc_callVi X (pc := 96) cvX3_addOne mX3_121 (rb_obT ht) (qX3_addOne ht hok.1 hok.2.1 _ _ _ hnf) (by decide) rfl rfl (Nat.le_of_ble_eq_true rfl) dX3_makeThird_96 ?_
      refine rb_pop X (pc := 99) dX3_makeThird_99 rfl ?_
      refine rb_vret (S := []) X (pc := 100) Y dX3_makeThird_100 ?_
      exact ⟨rfl, by unfold sp_thd; rw [if_neg (fun z => z.elim he (fun z => z.elim (fun w => absurd w (by omega)) hor)), htw]⟩
    · have hi2 : i < sp_n T := Nat.lt_of_not_le (fun z => c40 ((sp_geI hok.1 (by omega) (by omega)).mpr z))
      refine rb_iload X (pc := 43) dX3_makeThird_43 rfl ?_
      refine rb_iconst (v := 2) X (pc := 45) dX3_makeThird_45 (by decide) ?_
      refine rb_icmp_ge X (pc := 46) (tgt := 90) dX3_makeThird_46 (by decide) (fun c46 => ?_) (fun c46 => ?_)
      · have h22 := (sp_geI (n := 2) rfl (by omega) (by omega)).mp c46
        have htw : sp_two T q (nI (sp_pair T q)) (sp_n T) = sp_two T q (nI (sp_pair T q)) i := by
          have z := sp_two_stop (T := T) (q := q) (e := nI (sp_pair T q)) (i := i) (by omega) (sp_n T - i)
          rwa [show i + (sp_n T - i) = sp_n T by omega] at z
        refine rb_aload_n X (pc := 90) dX3_makeThird_90 rfl rfl ?_
        refine rb_iconst (v := 0) X (pc := 91) dX3_makeThird_91 (by decide) ?_
        refine rb_iload_n X (pc := 92) dX3_makeThird_92 rfl rfl ?_
        refine rb_iload_n X (pc := 93) dX3_makeThird_93 rfl rfl ?_
        refine rb_iconst (v := 2) X (pc := 94) dX3_makeThird_94 (by decide) ?_
        refine rb_idiv X (pc := 95) dX3_makeThird_95 (by decide) ?_
        refine rc_callVi X (pc := 96) cvX3_addOne mX3_121 (rb_obT ht) (qX3_addOne ht hok.1 hok.2.1 _ _ _ hnf) (by decide) rfl rfl (Nat.le_of_ble_eq_true rfl) dX3_makeThird_96 ?_
        refine rb_pop X (pc := 99) dX3_makeThird_99 rfl ?_
        refine rb_vret (S := []) X (pc := 100) Y dX3_makeThird_100 ?_
        exact ⟨rfl, by unfold sp_thd; rw [if_neg (fun z => z.elim he (fun z => z.elim (fun w => absurd w (by omega)) hor)), htw]⟩
      · have h22 : (sp_two T q (nI (sp_pair T q)) i).2 < 2 := Nat.lt_of_not_le (fun z => c46 ((sp_geI (n := 2) rfl (by omega) (by omega)).mpr z))
        refine rb_aload_n X (pc := 49) dX3_makeThird_49 rfl rfl ?_
        refine rc_getR X (pc := 50) fX3_40 (rb_obT ht) rfl dX3_makeThird_50 ?_
        refine rb_iload X (pc := 53) dX3_makeThird_53 rfl ?_
        refine rc_iald X (pc := 55) _ (rb_arT9 ht) rb_tj9 rfl (by omega) dX3_makeThird_55 ?_
        refine rb_iload_n X (pc := 56) dX3_makeThird_56 rfl rfl ?_
        refine rb_icmp_ne X (pc := 57) (tgt := 84) dX3_makeThird_57 (by decide) (fun c57 => ?_) (fun c57 => ?_)
        · refine rb_iinc X (pc := 84) dX3_makeThird_84 rfl (sp_inc _) (by decide) rfl rfl ?_
          refine rb_goto X (pc := 87) (tgt := 34) dX3_makeThird_87 (by decide) ?_
          refine sp_go ?_ rfl (ih (i + 1) (by omega) (by omega))
          first
          | (rw [sp_two_s, if_pos ⟨h22, by first | exact c57 | simpa using c57, by first | exact c68 | simpa using c68⟩]; rfl)
          | (rw [sp_two_s, if_neg (fun z => c68 z.2.2)]; rfl)
          | (rw [sp_two_s, if_neg (fun z => c57 z.2.1)]; rfl)
        · refine rb_aload_n X (pc := 60) dX3_makeThird_60 rfl rfl ?_
          refine rc_getR X (pc := 61) fX3_31 (rb_obT ht) rfl dX3_makeThird_61 ?_
          refine rb_iload X (pc := 64) dX3_makeThird_64 rfl ?_
          refine rc_iald X (pc := 66) _ (rb_arT6 ht) rb_tj6 rfl (by omega) dX3_makeThird_66 ?_
          refine rb_iload_n X (pc := 67) dX3_makeThird_67 rfl rfl ?_
          refine rb_icmp_ne X (pc := 68) (tgt := 84) dX3_makeThird_68 (by decide) (fun c68 => ?_) (fun c68 => ?_)
          · refine rb_iinc X (pc := 84) dX3_makeThird_84 rfl (sp_inc _) (by decide) rfl rfl ?_
            refine rb_goto X (pc := 87) (tgt := 34) dX3_makeThird_87 (by decide) ?_
            refine sp_go ?_ rfl (ih (i + 1) (by omega) (by omega))
            first
            | (rw [sp_two_s, if_pos ⟨h22, by first | exact c57 | simpa using c57, by first | exact c68 | simpa using c68⟩]; rfl)
            | (rw [sp_two_s, if_neg (fun z => c68 z.2.2)]; rfl)
            | (rw [sp_two_s, if_neg (fun z => c57 z.2.1)]; rfl)
          · refine rb_iload_n X (pc := 71) dX3_makeThird_71 rfl rfl ?_
            refine rb_aload_n X (pc := 72) dX3_makeThird_72 rfl rfl ?_
            refine rc_getR X (pc := 73) fX3_34 (rb_obT ht) rfl dX3_makeThird_73 ?_
            refine rb_iload X (pc := 76) dX3_makeThird_76 rfl ?_
            refine rc_iald X (pc := 78) _ (rb_arT7 ht) rb_tj7 rfl (by omega) dX3_makeThird_78 ?_
            refine rb_iadd X (pc := 79) dX3_makeThird_79 ?_
            refine rb_istore_n X (pc := 80) dX3_makeThird_80 rfl (by decide) rfl rfl ?_
            refine rb_iinc X (pc := 81) dX3_makeThird_81 rfl (sp_inc _) (by decide) rfl rfl ?_
            refine rb_iinc X (pc := 84) dX3_makeThird_84 rfl (sp_inc _) (by decide) rfl rfl ?_
            refine rb_goto X (pc := 87) (tgt := 34) dX3_makeThird_87 (by decide) ?_
            refine sp_go ?_ rfl (ih (i + 1) (by omega) (by omega))
            first
            | (rw [sp_two_s, if_pos ⟨h22, by first | exact c57 | simpa using c57, by first | exact c68 | simpa using c68⟩]; rfl)
            | (rw [sp_two_s, if_neg (fun z => c68 z.2.2)]; rfl)
            | (rw [sp_two_s, if_neg (fun z => c57 z.2.1)]; rfl)
set_option maxRecDepth 100000 in
set_option maxHeartbeats 1000000 in
theorem qX3_makeThird_a {G : rb_G} {h : rb_H} {t : Nat} {T : rb_T} (ht : t < 3) (hok : sp_ok T) {q : Nat} (he : sp_pair T q = 16) : rb_M G 2 yX3_makeThird cX3_makeThird 6 none [.ref (rb_ad G t 0), .int (nI q)] (tw h t T) (rb_F none (tw h t (sp_thd T q))) := by
  refine rb_meth (L := [.ref (rb_ad G t 0), .int (nI q), .null, .null, .null, .null]) (by decide) (Nat.le_of_ble_eq_true rfl) rfl (fun Z X Y => ?_)
  have X : rb_CX Z G cX3_makeThird 6 RX3 2 := X
  refine rb_aload_n X (pc := 0) dX3_makeThird_0 rfl rfl ?_
  refine rb_iload_n X (pc := 1) dX3_makeThird_1 rfl rfl ?_
  refine rc_callVi X (pc := 2) cvX3_pairedEvent mX3_115 (rb_obT ht) (qX3_pairedEvent ht (by assumption) _) (by decide) rfl rfl (Nat.le_of_ble_eq_true rfl) dX3_makeThird_2 ?_
  rw [if_pos he]
  refine rb_istore_n X (pc := 5) dX3_makeThird_5 rfl (by decide) rfl rfl ?_
  refine rb_iload_n X (pc := 6) dX3_makeThird_6 rfl rfl ?_
  refine rb_if_lt X (pc := 7) (tgt := 25) dX3_makeThird_7 (by decide) (fun c7 => ?_) (fun c7 => absurd (by decide) c7)
  refine rb_vret (S := []) X (pc := 25) Y dX3_makeThird_25 ?_
  exact ⟨rfl, by unfold sp_thd; rw [if_pos (Or.inl he)]⟩
set_option maxRecDepth 100000 in
set_option maxHeartbeats 1000000 in
theorem qX3_makeThird_b {G : rb_G} {h : rb_H} {t : Nat} {T : rb_T} (ht : t < 3) (hok : sp_ok T) {q : Nat} (he : ¬ sp_pair T q = 16) : rb_M G 2 yX3_makeThird cX3_makeThird 6 none [.ref (rb_ad G t 0), .int (nI q)] (tw h t T) (rb_F none (tw h t (sp_thd T q))) := by
  refine rb_meth (L := [.ref (rb_ad G t 0), .int (nI q), .null, .null, .null, .null]) (by decide) (Nat.le_of_ble_eq_true rfl) rfl (fun Z X Y => ?_)
  have X : rb_CX Z G cX3_makeThird 6 RX3 2 := X
  refine rb_aload_n X (pc := 0) dX3_makeThird_0 rfl rfl ?_
  refine rb_iload_n X (pc := 1) dX3_makeThird_1 rfl rfl ?_
  refine rc_callVi X (pc := 2) cvX3_pairedEvent mX3_115 (rb_obT ht) (qX3_pairedEvent ht (by assumption) _) (by decide) rfl rfl (Nat.le_of_ble_eq_true rfl) dX3_makeThird_2 ?_
  rw [if_neg he]
  refine rb_istore_n X (pc := 5) dX3_makeThird_5 rfl (by decide) rfl rfl ?_
  refine rb_iload_n X (pc := 6) dX3_makeThird_6 rfl rfl ?_
  refine rb_if_lt X (pc := 7) (tgt := 25) dX3_makeThird_7 (by decide) (fun c7 => absurd c7 (nI_pos (by have := sp_pair_le (T := T) (q := q); omega))) (fun c7 => ?_)
  refine rb_aload_n X (pc := 10) dX3_makeThird_10 rfl rfl ?_
  refine rc_callVi X (pc := 11) cvX3_isFull mX3_55 (rb_obT ht) (qX3_isFull ht) (by decide) rfl rfl (Nat.le_of_ble_eq_true rfl) dX3_makeThird_11 ?_
  refine rb_if_ne X (pc := 14) (tgt := 25) dX3_makeThird_14 (by decide) (fun c14 => ?_) (fun c14 => ?_)
  · (try simp only [sp_b0, Classical.not_not] at c14)
    have h10 : sp_n T = 10 := by
      have h3 := hok.2.1
      rw [hok.1] at c14
      have := (nI_leI (a := 10) (by omega) (by omega)).mp c14
      omega
    refine rb_vret (S := []) X (pc := 25) Y dX3_makeThird_25 ?_
    first
    | exact ⟨rfl, by unfold sp_thd; rw [if_pos (Or.inr (Or.inl h10))]⟩
    | exact ⟨rfl, by unfold sp_thd; rw [if_pos (Or.inr (Or.inr c22))]⟩
  · (try simp only [sp_b0, Classical.not_not] at c14)
    have hnf : sp_n T < 10 := by
      have h3 := hok.2.1
      rcases Nat.lt_or_ge (sp_n T) 10 with z | z
      · exact z
      · exact absurd (by rw [hok.1]; exact (nI_leI (a := 10) (by omega) (by omega)).mpr z) c14
    refine rb_aload_n X (pc := 17) dX3_makeThird_17 rfl rfl ?_
    refine rb_iload_n X (pc := 18) dX3_makeThird_18 rfl rfl ?_
    refine rc_callVi X (pc := 19) cvX3_isOnRoad mX3_118 (rb_obT ht) (qX3_isOnRoad ht hok.1 hok.2.1 _) (by decide) rfl rfl (Nat.le_of_ble_eq_true rfl) dX3_makeThird_19 ?_
    refine rb_if_eq X (pc := 22) (tgt := 26) dX3_makeThird_22 (by decide) (fun c22 => ?_) (fun c22 => ?_)
    · (try simp only [sp_b0, Classical.not_not] at c22)
      refine rb_iconst (v := 0) X (pc := 26) dX3_makeThird_26 (by decide) ?_
      refine rb_istore_n X (pc := 27) dX3_makeThird_27 rfl (by decide) rfl rfl ?_
      refine rb_iconst (v := 0) X (pc := 28) dX3_makeThird_28 (by decide) ?_
      refine rb_istore X (pc := 29) dX3_makeThird_29 (by decide) rfl rfl ?_
      refine rb_iconst (v := 0) X (pc := 31) dX3_makeThird_31 (by decide) ?_
      refine rb_istore X (pc := 32) dX3_makeThird_32 (by decide) rfl rfl ?_
      exact sp_go rfl rfl (lpX3_makeThird_34 ht hok he hnf c22 X Y (sp_n T + 1) 0 (by omega) (by omega))
    · (try simp only [sp_b0, Classical.not_not] at c22)
      refine rb_vret (S := []) X (pc := 25) Y dX3_makeThird_25 ?_
      first
      | exact ⟨rfl, by unfold sp_thd; rw [if_pos (Or.inr (Or.inl h10))]⟩
      | exact ⟨rfl, by unfold sp_thd; rw [if_pos (Or.inr (Or.inr c22))]⟩
theorem qX3_makeThird {G : rb_G} {h : rb_H} {t : Nat} {T : rb_T} (ht : t < 3) (hok : sp_ok T) {q : Nat} : rb_M G 2 yX3_makeThird cX3_makeThird 6 none [.ref (rb_ad G t 0), .int (nI q)] (tw h t T) (rb_F none (tw h t (sp_thd T q))) := by
  by_cases he : sp_pair T q = 16
  · exact qX3_makeThird_a ht hok he
  · exact qX3_makeThird_b ht hok he
set_option maxRecDepth 100000 in
set_option maxHeartbeats 1000000 in
theorem lpX3_passDay_82 {Z : rb_Z} {G : rb_G} {h : rb_H} {t : Nat} {T : rb_T} (ht : t < 3) (hok : sp_ok T) {R : rb_T} (hR : R = u2 (sp_day3 T) 10 0 (sp_day3 T 10 0 + 1)) (X : rb_CX Z G cX3_passDay 2 RX3 4) (Y : rb_RT Z G none (rb_F none (tw h t R))) : ∀ fu : Nat, ∀ i : Nat, i ≤ sp_n T → sp_n T + 1 ≤ i + fu → rb_WP Z G 2 82 [.ref (rb_ad G t 0), .int (nI i)] [] (tw h t (sp_it sp_d3 T i)) := by
  intro fu
  induction fu with
  | zero => intro i hi hf; omega
  | succ fu ih =>
    intro i hi hf
    obtain ⟨hki, hni⟩ := sp_day3_ok hok hi
    have h4 := hki.1
    rw [hni] at h4
    have hn10 := hok.2.1
    refine rb_iload_n X (pc := 82) dX3_passDay_82 rfl rfl ?_
    refine rb_aload_n X (pc := 83) dX3_passDay_83 rfl rfl ?_
    refine rc_getI X (pc := 84) fX3_24 (rb_obT ht) rfl rb_tf4 dX3_passDay_84 ?_
    refine rb_icmp_ge X (pc := 87) (tgt := 116) dX3_passDay_87 (by decide) (fun c87 => ?_) (fun c87 => ?_)
    · have hi2 := (sp_geI h4 (by omega) (by omega)).mp c87
      obtain rfl : i = sp_n T := by omega
      refine rb_aload_n X (pc := 116) dX3_passDay_116 rfl rfl ?_
      refine rb_dup X (pc := 117) dX3_passDay_117 rfl ?_
      refine rc_getI X (pc := 118) fX3_43 (rb_obT ht) rfl rb_tf10 dX3_passDay_118 ?_
      refine rb_iconst (v := 1) X (pc := 121) dX3_passDay_121 (by decide) ?_
      refine rb_iadd X (pc := 122) dX3_passDay_122 ?_
      refine rc_put X (pc := 123) fX3_43 gX3_10 (rb_obT ht) rfl rfl rfl (tw_u (by decide) (by decide) (by decide)) dX3_passDay_123 ?_
      refine rb_vret (S := []) X (pc := 126) Y dX3_passDay_126 ?_
      exact ⟨rfl, by rw [hR]; rfl⟩
    · have hi2 : i < sp_n T := Nat.lt_of_not_le (fun z => c87 ((sp_geI h4 (by omega) (by omega)).mpr z))
      refine rb_aload_n X (pc := 90) dX3_passDay_90 rfl rfl ?_
      refine rc_getR X (pc := 91) fX3_40 (rb_obT ht) rfl dX3_passDay_91 ?_
      refine rb_iload_n X (pc := 94) dX3_passDay_94 rfl rfl ?_
      refine rc_iald X (pc := 95) _ (rb_arT9 ht) rb_tj9 rfl (by omega) dX3_passDay_95 ?_
      refine rb_iconst (v := (-1)) X (pc := 96) dX3_passDay_96 (by decide) ?_
      refine rb_icmp_ne X (pc := 97) (tgt := 110) dX3_passDay_97 (by decide) (fun c97 => ?_) (fun c97 => ?_)
      · refine rb_iinc X (pc := 110) dX3_passDay_110 rfl (sp_inc _) (by decide) rfl rfl ?_
        refine rb_goto X (pc := 113) (tgt := 82) dX3_passDay_113 (by decide) ?_
        first
        | exact sp_go rfl (by rw [sp_it_s, sp_d3_yes (by first | exact c97 | simpa using c97)]) (ih (i + 1) (by omega) (by omega))
        | exact sp_go rfl (by rw [sp_it_s, sp_d3_no c97]) (ih (i + 1) (by omega) (by omega))
      · refine rb_aload_n X (pc := 100) dX3_passDay_100 rfl rfl ?_
        refine rb_iload_n X (pc := 101) dX3_passDay_101 rfl rfl ?_
        refine rb_aload_n X (pc := 102) dX3_passDay_102 rfl rfl ?_
        refine rb_iload_n X (pc := 103) dX3_passDay_103 rfl rfl ?_
        refine rc_callVi X (pc := 104) cvX3_hostFor mX3_106 (rb_obT ht) (qX3_hostFor ht (T := sp_it sp_d3 T i) (r := i) (by omega)) (by decide) rfl rfl (Nat.le_of_ble_eq_true rfl) dX3_passDay_104 ?_
        refine rc_callVv X (pc := 107) cvX3_lodge mX3_92 (rb_obT ht) (qX3_lodge ht (T := sp_it sp_d3 T i) (r := i) (by omega) (by omega) (by first | exact Or.inl c97 | exact Or.inl (by simpa using c97)) (sp_host_ok _ _)) (by decide) rfl rfl (Nat.le_of_ble_eq_true rfl) dX3_passDay_107 ?_
        refine rb_iinc X (pc := 110) dX3_passDay_110 rfl (sp_inc _) (by decide) rfl rfl ?_
        refine rb_goto X (pc := 113) (tgt := 82) dX3_passDay_113 (by decide) ?_
        first
        | exact sp_go rfl (by rw [sp_it_s, sp_d3_yes (by first | exact c97 | simpa using c97)]) (ih (i + 1) (by omega) (by omega))
        | exact sp_go rfl (by rw [sp_it_s, sp_d3_no c97]) (ih (i + 1) (by omega) (by omega))
set_option maxRecDepth 100000 in
set_option maxHeartbeats 1000000 in
theorem lpX3_passDay_53 {Z : rb_Z} {G : rb_G} {h : rb_H} {t : Nat} {T : rb_T} (ht : t < 3) (hok : sp_ok T) {R : rb_T} (hR : R = u2 (sp_day3 (sp_day2 T)) 10 0 (sp_day3 (sp_day2 T) 10 0 + 1)) (X : rb_CX Z G cX3_passDay 2 RX3 4) (Y : rb_RT Z G none (rb_F none (tw h t R))) : ∀ fu : Nat, ∀ i : Nat, i ≤ 8 → 9 ≤ i + fu → rb_WP Z G 2 53 [.ref (rb_ad G t 0), .int (nI i)] [] (tw h t (sp_it (fun q T => sp_thd T q) T i)) := by
  intro fu
  induction fu with
  | zero => intro i hi hf; omega
  | succ fu ih =>
    intro i hi hf
    have hki := sp_day2_ok hok hi
    refine rb_iload_n X (pc := 53) dX3_passDay_53 rfl rfl ?_
    refine rb_bipush (v := 8) X (pc := 54) dX3_passDay_54 (by decide) ?_
    refine rb_icmp_ge X (pc := 56) (tgt := 80) dX3_passDay_56 (by decide) (fun c56 => ?_) (fun c56 => ?_)
    · have hi2 := (sp_geI (n := 8) rfl (by omega) (by omega)).mp c56
      obtain rfl : i = 8 := by omega
      refine rb_iconst (v := 0) X (pc := 80) dX3_passDay_80 (by decide) ?_
      refine rb_istore_n X (pc := 81) dX3_passDay_81 rfl (by decide) rfl rfl ?_
      exact sp_go rfl (by rw [sp_it_0]) (lpX3_passDay_82 ht (T := sp_it (fun q T => sp_thd T q) T 8) hki hR X Y (sp_n (sp_it (fun q T => sp_thd T q) T 8) + 1) 0 (Nat.zero_le _) (Nat.le_add_left _ _))
    · have hi2 : i < 8 := Nat.lt_of_not_le (fun z => c56 ((sp_geI (n := 8) rfl (by omega) (by omega)).mpr z))
      refine rb_aload_n X (pc := 59) dX3_passDay_59 rfl rfl ?_
      refine rc_getR X (pc := 60) fX3_21 (rb_obT ht) rfl dX3_passDay_60 ?_
      refine rb_iload_n X (pc := 63) dX3_passDay_63 rfl rfl ?_
      refine rc_iald X (pc := 64) _ (rb_arT3 ht) rb_tj3 rfl (by omega) dX3_passDay_64 ?_
      refine rb_iconst (v := 2) X (pc := 65) dX3_passDay_65 (by decide) ?_
      refine rb_icmp_lt X (pc := 66) (tgt := 74) dX3_passDay_66 (by decide) (fun c66 => ?_) (fun c66 => ?_)
      · refine rb_iinc X (pc := 74) dX3_passDay_74 rfl (sp_inc _) (by decide) rfl rfl ?_
        refine rb_goto X (pc := 77) (tgt := 53) dX3_passDay_77 (by decide) ?_
        first
        | exact sp_go rfl (by rw [sp_it_s, sp_cn_lt2 hi2 hki.2.1 c66]) (ih (i + 1) (by omega) (by omega))
        | exact sp_go rfl (by rw [sp_it_s]) (ih (i + 1) (by omega) (by omega))
      · refine rb_aload_n X (pc := 69) dX3_passDay_69 rfl rfl ?_
        refine rb_iload_n X (pc := 70) dX3_passDay_70 rfl rfl ?_
        refine rc_callVv X (pc := 71) cvX3_makeThird mX3_103 (rb_obT ht) (qX3_makeThird ht hki) (by decide) rfl rfl (Nat.le_of_ble_eq_true rfl) dX3_passDay_71 ?_
        refine rb_iinc X (pc := 74) dX3_passDay_74 rfl (sp_inc _) (by decide) rfl rfl ?_
        refine rb_goto X (pc := 77) (tgt := 53) dX3_passDay_77 (by decide) ?_
        first
        | exact sp_go rfl (by rw [sp_it_s, sp_cn_lt2 hi2 hki.2.1 c66]) (ih (i + 1) (by omega) (by omega))
        | exact sp_go rfl (by rw [sp_it_s]) (ih (i + 1) (by omega) (by omega))
set_option maxRecDepth 100000 in
set_option maxHeartbeats 1000000 in
theorem lpX3_passDay_2 {Z : rb_Z} {G : rb_G} {h : rb_H} {t : Nat} {T : rb_T} (ht : t < 3) (hok : sp_ok T) (X : rb_CX Z G cX3_passDay 2 RX3 4) (Y : rb_RT Z G none (rb_F none (tw h t (sp_day T)))) : ∀ fu : Nat, ∀ i : Nat, i ≤ sp_n T → sp_n T + 1 ≤ i + fu → rb_WP Z G 2 2 [.ref (rb_ad G t 0), .int (nI i)] [] (tw h t (sp_it sp_d1 T i)) := by
  intro fu
  induction fu with
  | zero => intro i hi hf; omega
  | succ fu ih =>
    intro i hi hf
    obtain ⟨hki, hni⟩ := sp_day1_ok hok hi
    have h4 := hki.1
    rw [hni] at h4
    have hn10 := hok.2.1
    refine rb_iload_n X (pc := 2) dX3_passDay_2 rfl rfl ?_
    refine rb_aload_n X (pc := 3) dX3_passDay_3 rfl rfl ?_
    refine rc_getI X (pc := 4) fX3_24 (rb_obT ht) rfl rb_tf4 dX3_passDay_4 ?_
    refine rb_icmp_ge X (pc := 7) (tgt := 51) dX3_passDay_7 (by decide) (fun c7 => ?_) (fun c7 => ?_)
    · have hi2 := (sp_geI h4 (by omega) (by omega)).mp c7
      obtain rfl : i = sp_n T := by omega
      refine rb_iconst (v := 0) X (pc := 51) dX3_passDay_51 (by decide) ?_
      refine rb_istore_n X (pc := 52) dX3_passDay_52 rfl (by decide) rfl rfl ?_
      exact sp_go rfl (by rw [sp_it_0]) (lpX3_passDay_53 ht (T := sp_it sp_d1 T (sp_n T)) hki sp_day_eq X Y 9 0 (by omega) (by omega))
    · have hi2 : i < sp_n T := Nat.lt_of_not_le (fun z => c7 ((sp_geI h4 (by omega) (by omega)).mpr z))
      refine rb_aload_n X (pc := 10) dX3_passDay_10 rfl rfl ?_
      refine rc_getR X (pc := 11) fX3_40 (rb_obT ht) rfl dX3_passDay_11 ?_
      refine rb_iload_n X (pc := 14) dX3_passDay_14 rfl rfl ?_
      refine rc_iald X (pc := 15) _ (rb_arT9 ht) rb_tj9 rfl (by omega) dX3_passDay_15 ?_
      refine rb_iconst (v := (-1)) X (pc := 16) dX3_passDay_16 (by decide) ?_
      refine rb_icmp_eq X (pc := 17) (tgt := 25) dX3_passDay_17 (by decide) (fun c17 => ?_) (fun c17 => ?_)
      · refine rb_aload_n X (pc := 25) dX3_passDay_25 rfl rfl ?_
        refine rc_getR X (pc := 26) fX3_37 (rb_obT ht) rfl dX3_passDay_26 ?_
        refine rb_iload_n X (pc := 29) dX3_passDay_29 rfl rfl ?_
        refine rb_sipush (v := 999) X (pc := 30) dX3_passDay_30 (by decide) ?_
        refine rb_aload_n X (pc := 33) dX3_passDay_33 rfl rfl ?_
        refine rc_getR X (pc := 34) fX3_37 (rb_obT ht) rfl dX3_passDay_34 ?_
        refine rb_iload_n X (pc := 37) dX3_passDay_37 rfl rfl ?_
        refine rc_iald X (pc := 38) _ (rb_arT8 ht) rb_tj8 rfl (by omega) dX3_passDay_38 ?_
        refine rb_iconst (v := 1) X (pc := 39) dX3_passDay_39 (by decide) ?_
        refine rb_iadd X (pc := 40) dX3_passDay_40 ?_
        refine rc_mmin X (pc := 41) mX3_87 (by decide) (Nat.le_of_ble_eq_true rfl) dX3_passDay_41 ?_
        refine rc_iast X (pc := 44) _ (rb_arT8 ht) (tw_u (by decide) (by decide) (by decide)) rfl (by omega) dX3_passDay_44 ?_
        refine rb_iinc X (pc := 45) dX3_passDay_45 rfl (sp_inc _) (by decide) rfl rfl ?_
        refine rb_goto X (pc := 48) (tgt := 2) dX3_passDay_48 (by decide) ?_
        first
        | exact sp_go rfl (by rw [sp_it_s, sp_d1_no c17]; rfl) (ih (i + 1) (by omega) (by omega))
        | exact sp_go rfl (by rw [sp_it_s, sp_d1_yes (by first | exact c17 | simpa using c17)]; rfl) (ih (i + 1) (by omega) (by omega))
      · obtain ⟨p, hp1, hp⟩ := sp_pl_ne (hki.2.2.1 i (by omega)).2.2.2.2 c17
        refine rb_aload_n X (pc := 20) dX3_passDay_20 rfl rfl ?_
        refine rb_iload_n X (pc := 21) dX3_passDay_21 rfl rfl ?_
        refine rc_callVv X (pc := 22) cvX3_feedOne mX3_99 (rb_obT ht) (qX3_feedOne ht (T := sp_it sp_d1 T i) (r := i) (by omega) (by omega) hp1 hp) (by decide) rfl rfl (Nat.le_of_ble_eq_true rfl) dX3_passDay_22 ?_
        refine rb_aload_n X (pc := 25) dX3_passDay_25 rfl rfl ?_
        refine rc_getR X (pc := 26) fX3_37 (rb_obT ht) rfl dX3_passDay_26 ?_
        refine rb_iload_n X (pc := 29) dX3_passDay_29 rfl rfl ?_
        refine rb_sipush (v := 999) X (pc := 30) dX3_passDay_30 (by decide) ?_
        refine rb_aload_n X (pc := 33) dX3_passDay_33 rfl rfl ?_
        refine rc_getR X (pc := 34) fX3_37 (rb_obT ht) rfl dX3_passDay_34 ?_
        refine rb_iload_n X (pc := 37) dX3_passDay_37 rfl rfl ?_
        refine rc_iald X (pc := 38) _ (rb_arT8 ht) rb_tj8 rfl (by omega) dX3_passDay_38 ?_
        refine rb_iconst (v := 1) X (pc := 39) dX3_passDay_39 (by decide) ?_
        refine rb_iadd X (pc := 40) dX3_passDay_40 ?_
        refine rc_mmin X (pc := 41) mX3_87 (by decide) (Nat.le_of_ble_eq_true rfl) dX3_passDay_41 ?_
        refine rc_iast X (pc := 44) _ (rb_arT8 ht) (tw_u (by decide) (by decide) (by decide)) rfl (by omega) dX3_passDay_44 ?_
        refine rb_iinc X (pc := 45) dX3_passDay_45 rfl (sp_inc _) (by decide) rfl rfl ?_
        refine rb_goto X (pc := 48) (tgt := 2) dX3_passDay_48 (by decide) ?_
        first
        | exact sp_go rfl (by rw [sp_it_s, sp_d1_no c17]; rfl) (ih (i + 1) (by omega) (by omega))
        | exact sp_go rfl (by rw [sp_it_s, sp_d1_yes (by first | exact c17 | simpa using c17)]; rfl) (ih (i + 1) (by omega) (by omega))
set_option maxRecDepth 100000 in
set_option maxHeartbeats 1000000 in
theorem qX3_passDay {G : rb_G} {h : rb_H} {t : Nat} {T : rb_T} (ht : t < 3) (hok : sp_ok T) : rb_M G 4 yX3_passDay cX3_passDay 2 none [.ref (rb_ad G t 0)] (tw h t T) (rb_F none (tw h t (sp_day T))) := by
  refine rb_meth (L := [.ref (rb_ad G t 0), .null]) (by decide) (Nat.le_of_ble_eq_true rfl) rfl (fun Z X Y => ?_)
  have X : rb_CX Z G cX3_passDay 2 RX3 4 := X
  refine rb_iconst (v := 0) X (pc := 0) dX3_passDay_0 (by decide) ?_
  refine rb_istore_n X (pc := 1) dX3_passDay_1 rfl (by decide) rfl rfl ?_
  exact sp_go rfl (by rw [sp_it_0]) (lpX3_passDay_2 ht hok X Y (sp_n T + 1) 0 (by omega) (by omega))
set_option maxRecDepth 100000 in
set_option maxHeartbeats 1000000 in
theorem lpX3_passDays_2 {Z : rb_Z} {G : rb_G} {h : rb_H} {t : Nat} {T : rb_T} (ht : t < 3) (hok : sp_ok T) {n : Nat} (hn : n < 2 ^ 30) (X : rb_CX Z G cX3_passDays 3 RX3 5) (Y : rb_RT Z G none (rb_F none (tw h t (sp_days T n)))) : ∀ fu : Nat, ∀ i : Nat, i ≤ n → n + 1 ≤ i + fu → rb_WP Z G 3 2 [.ref (rb_ad G t 0), .int (nI n), .int (nI i)] [] (tw h t (sp_days T i)) := by
  intro fu
  induction fu with
  | zero => intro i hi hf; omega
  | succ fu ih =>
    intro i hi hf
    have hki := sp_days_ok hok i
    refine rb_iload_n X (pc := 2) dX3_passDays_2 rfl rfl ?_
    refine rb_iload_n X (pc := 3) dX3_passDays_3 rfl rfl ?_
    refine rb_icmp_ge X (pc := 4) (tgt := 17) dX3_passDays_4 (by decide) (fun c4 => ?_) (fun c4 => ?_)
    · have hi2 := (sp_geI (n := n) rfl (by omega) (by omega)).mp c4
      obtain rfl : i = n := by omega
      refine rb_vret (S := []) X (pc := 17) Y dX3_passDays_17 ?_
      exact ⟨rfl, rfl⟩
    · have hi2 : i < n := Nat.lt_of_not_le (fun z => c4 ((sp_geI (n := n) rfl (by omega) (by omega)).mpr z))
      refine rb_aload_n X (pc := 7) dX3_passDays_7 rfl rfl ?_
      refine rc_callVv X (pc := 8) cvX3_passDay mX3_96 (rb_obT ht) (qX3_passDay ht (T := sp_days T i) hki) (by decide) rfl rfl (Nat.le_of_ble_eq_true rfl) dX3_passDays_8 ?_
      refine rb_iinc X (pc := 11) dX3_passDays_11 rfl (sp_inc _) (by decide) rfl rfl ?_
      refine rb_goto X (pc := 14) (tgt := 2) dX3_passDays_14 (by decide) ?_
      exact sp_go rfl rfl (ih (i + 1) (by omega) (by omega))
set_option maxRecDepth 100000 in
set_option maxHeartbeats 1000000 in
theorem qX3_passDays {G : rb_G} {h : rb_H} {t : Nat} {T : rb_T} (ht : t < 3) (hok : sp_ok T) {n : Nat} (hn : n < 2 ^ 30) : rb_M G 5 yX3_passDays cX3_passDays 3 none [.ref (rb_ad G t 0), .int (nI n)] (tw h t T) (rb_F none (tw h t (sp_days T n))) := by
  refine rb_meth (L := [.ref (rb_ad G t 0), .int (nI n), .null]) (by decide) (Nat.le_of_ble_eq_true rfl) rfl (fun Z X Y => ?_)
  have X : rb_CX Z G cX3_passDays 3 RX3 5 := X
  refine rb_iconst (v := 0) X (pc := 0) dX3_passDays_0 (by decide) ?_
  refine rb_istore_n X (pc := 1) dX3_passDays_1 rfl (by decide) rfl rfl ?_
  exact sp_go rfl rfl (lpX3_passDays_2 ht hok hn X Y (n + 1) 0 (by omega) (by omega))
theorem rb_fl_eq2 {G : rb_G} {h h' : rb_H} {o : Nat} (hh : ∀ j, j < (rb_fk o).length → (rb_fk o).getD j 0 = 0 → h'.1 o j 0 = h.1 o j 0) : rb_fl G h' o = rb_fl G h o := by
  unfold rb_fl
  exact List.map_congr_left (fun j hj => rb_fv_eq (hh j (List.mem_range.mp hj)))
theorem rb_stC {Z : rb_Z} {G : rb_G} {nL pc t : Nat} {L S : List Value} {h : rb_H} {M M' : rb_T} (ht : t < 3) (h1 : ∀ j, j < 12 → ¬ (j = 4 ∨ j = 10 ∨ j = 11) → M j = M' j) (h2 : M 4 0 = M' 4 0 ∧ M 10 0 = M' 10 0 ∧ M 11 0 = M' 11 0) (k : rb_WP Z G nL pc L S (rb_st h t M')) : rb_WP Z G nL pc L S (rb_st h t M) := by
  refine rb_cong (fun o j hm G a H hc => ?_) k
  have e : rb_cl G (rb_st h t M) o j = rb_cl G (rb_st h t M') o j := by
    by_cases ho : o = t
    · subst ho
      rcases j with _ | j
      · show (Sum.inr (rb_ci o, rb_fl G (rb_st h o M) o) : va_E) = Sum.inr (rb_ci o, rb_fl G (rb_st h o M') o)
        rw [rb_fl_eq2 (h := rb_st h o M')]
        intro j z hj
        rw [rb_st_at, rb_st_at]
        rw [(rb_obT ht).2.2.1] at hj z
        have z : j < 12 := z
        rcases (show j = 0 ∨ j = 1 ∨ j = 2 ∨ j = 3 ∨ j = 4 ∨ j = 5 ∨ j = 6 ∨ j = 7 ∨ j = 8 ∨ j = 9 ∨ j = 10 ∨ j = 11 by omega) with rfl | rfl | rfl | rfl | rfl | rfl | rfl | rfl | rfl | rfl | rfl | rfl
        all_goals first | exact h2.1 | exact h2.2.1 | exact h2.2.2 | (exact absurd hj (by decide))
      · have hj := rb_arK hm
        have hj17 := rb_idb _ hm
        rw [(rb_obT ht).2.2.1] at hj
        refine rb_ac_eq ?_ rfl
        rw [rb_st_at, rb_st_at]
        simp only at hj17
        refine h1 j ?_ ?_
        · rcases Nat.lt_or_ge j 12 with z | z
          · exact z
          · rcases (show j = 12 ∨ j = 13 ∨ j = 14 ∨ j = 15 by omega) with rfl | rfl | rfl | rfl <;> exact absurd hj (by decide)
        · rintro (rfl | rfl | rfl) <;> exact absurd hj (by decide)
    · rcases j with _ | j
      · show (Sum.inr (rb_ci o, rb_fl G (rb_st h t M) o) : va_E) = Sum.inr (rb_ci o, rb_fl G (rb_st h t M') o)
        rw [rb_fl_eq (h := rb_st h t M')]
        intro j hj
        rw [rb_st_ne ho, rb_st_ne ho]
      · refine rb_ac_eq ?_ rfl
        rw [rb_st_ne ho, rb_st_ne ho]
  rw [← e]; exact hc
set_option maxRecDepth 100000 in
set_option maxHeartbeats 1000000 in
theorem qX3_becomes {G : rb_G} {h : rb_H} {t t2 : Nat} {M2 : rb_T} (ht : t < 3) (ht2 : t2 < 3) (hne : t2 ≠ t) (hs : h.1 t2 = M2) : rb_M G 1 yX3_becomes cX3_becomes 2 none [.ref (rb_ad G t 0), .ref (rb_ad G t2 0)] (h) (rb_F none (rb_st h t M2)) := by
  refine rb_meth (L := [.ref (rb_ad G t 0), .ref (rb_ad G t2 0)]) (by decide) (Nat.le_of_ble_eq_true rfl) rfl (fun Z X Y => ?_)
  have X : rb_CX Z G cX3_becomes 2 RX3 1 := X
  rw [show h = rb_st h t (h.1 t) from (rb_st_self rfl).symm]
  have hst : (rb_st h t (h.1 t)) = h := rb_st_self rfl
  refine rb_aload_n X (pc := 0) dX3_becomes_0 rfl rfl ?_
  refine rc_getR X (pc := 1) fX3_9 (rb_obT ht2) rfl dX3_becomes_1 ?_
  refine rb_iconst (v := 0) X (pc := 4) dX3_becomes_4 (by decide) ?_
  refine rb_aload_n X (pc := 5) dX3_becomes_5 rfl rfl ?_
  refine rc_getR X (pc := 6) fX3_9 (rb_obT ht) rfl dX3_becomes_6 ?_
  refine rb_iconst (v := 0) X (pc := 9) dX3_becomes_9 (by decide) ?_
  refine rb_bipush (v := 8) X (pc := 10) dX3_becomes_10 (by decide) ?_
  refine rc_copyAll X (pc := 12) mX3_49 (by decide) (Nat.le_of_ble_eq_true rfl) (rb_arT0 ht2) (rb_arT0 ht) rfl (by decide) (congrFun ((rb_st_ne hne).trans hs) 0) rb_row_st dX3_becomes_12 ?_
  refine rb_aload_n X (pc := 15) dX3_becomes_15 rfl rfl ?_
  refine rc_getR X (pc := 16) fX3_15 (rb_obT ht2) rfl dX3_becomes_16 ?_
  refine rb_iconst (v := 0) X (pc := 19) dX3_becomes_19 (by decide) ?_
  refine rb_aload_n X (pc := 20) dX3_becomes_20 rfl rfl ?_
  refine rc_getR X (pc := 21) fX3_15 (rb_obT ht) rfl dX3_becomes_21 ?_
  refine rb_iconst (v := 0) X (pc := 24) dX3_becomes_24 (by decide) ?_
  refine rb_bipush (v := 8) X (pc := 25) dX3_becomes_25 (by decide) ?_
  refine rc_copyAll X (pc := 27) mX3_49 (by decide) (Nat.le_of_ble_eq_true rfl) (rb_arT1 ht2) (rb_arT1 ht) rfl (by decide) (congrFun ((rb_st_ne hne).trans hs) 1) rb_row_st dX3_becomes_27 ?_
  refine rb_aload_n X (pc := 30) dX3_becomes_30 rfl rfl ?_
  refine rc_getR X (pc := 31) fX3_18 (rb_obT ht2) rfl dX3_becomes_31 ?_
  refine rb_iconst (v := 0) X (pc := 34) dX3_becomes_34 (by decide) ?_
  refine rb_aload_n X (pc := 35) dX3_becomes_35 rfl rfl ?_
  refine rc_getR X (pc := 36) fX3_18 (rb_obT ht) rfl dX3_becomes_36 ?_
  refine rb_iconst (v := 0) X (pc := 39) dX3_becomes_39 (by decide) ?_
  refine rb_bipush (v := 8) X (pc := 40) dX3_becomes_40 (by decide) ?_
  refine rc_copyAll X (pc := 42) mX3_49 (by decide) (Nat.le_of_ble_eq_true rfl) (rb_arT2 ht2) (rb_arT2 ht) rfl (by decide) (congrFun ((rb_st_ne hne).trans hs) 2) rb_row_st dX3_becomes_42 ?_
  refine rb_aload_n X (pc := 45) dX3_becomes_45 rfl rfl ?_
  refine rc_getR X (pc := 46) fX3_21 (rb_obT ht2) rfl dX3_becomes_46 ?_
  refine rb_iconst (v := 0) X (pc := 49) dX3_becomes_49 (by decide) ?_
  refine rb_aload_n X (pc := 50) dX3_becomes_50 rfl rfl ?_
  refine rc_getR X (pc := 51) fX3_21 (rb_obT ht) rfl dX3_becomes_51 ?_
  refine rb_iconst (v := 0) X (pc := 54) dX3_becomes_54 (by decide) ?_
  refine rb_bipush (v := 8) X (pc := 55) dX3_becomes_55 (by decide) ?_
  refine rc_copyAll X (pc := 57) mX3_49 (by decide) (Nat.le_of_ble_eq_true rfl) (rb_arT3 ht2) (rb_arT3 ht) rfl (by decide) (congrFun ((rb_st_ne hne).trans hs) 3) rb_row_st dX3_becomes_57 ?_
  refine rb_aload_n X (pc := 60) dX3_becomes_60 rfl rfl ?_
  refine rc_getR X (pc := 61) fX3_28 (rb_obT ht2) rfl dX3_becomes_61 ?_
  refine rb_iconst (v := 0) X (pc := 64) dX3_becomes_64 (by decide) ?_
  refine rb_aload_n X (pc := 65) dX3_becomes_65 rfl rfl ?_
  refine rc_getR X (pc := 66) fX3_28 (rb_obT ht) rfl dX3_becomes_66 ?_
  refine rb_iconst (v := 0) X (pc := 69) dX3_becomes_69 (by decide) ?_
  refine rb_bipush (v := 10) X (pc := 70) dX3_becomes_70 (by decide) ?_
  refine rc_copyAll X (pc := 72) mX3_49 (by decide) (Nat.le_of_ble_eq_true rfl) (rb_arT5 ht2) (rb_arT5 ht) rfl (by decide) (congrFun ((rb_st_ne hne).trans hs) 5) rb_row_st dX3_becomes_72 ?_
  refine rb_aload_n X (pc := 75) dX3_becomes_75 rfl rfl ?_
  refine rc_getR X (pc := 76) fX3_31 (rb_obT ht2) rfl dX3_becomes_76 ?_
  refine rb_iconst (v := 0) X (pc := 79) dX3_becomes_79 (by decide) ?_
  refine rb_aload_n X (pc := 80) dX3_becomes_80 rfl rfl ?_
  refine rc_getR X (pc := 81) fX3_31 (rb_obT ht) rfl dX3_becomes_81 ?_
  refine rb_iconst (v := 0) X (pc := 84) dX3_becomes_84 (by decide) ?_
  refine rb_bipush (v := 10) X (pc := 85) dX3_becomes_85 (by decide) ?_
  refine rc_copyAll X (pc := 87) mX3_49 (by decide) (Nat.le_of_ble_eq_true rfl) (rb_arT6 ht2) (rb_arT6 ht) rfl (by decide) (congrFun ((rb_st_ne hne).trans hs) 6) rb_row_st dX3_becomes_87 ?_
  refine rb_aload_n X (pc := 90) dX3_becomes_90 rfl rfl ?_
  refine rc_getR X (pc := 91) fX3_34 (rb_obT ht2) rfl dX3_becomes_91 ?_
  refine rb_iconst (v := 0) X (pc := 94) dX3_becomes_94 (by decide) ?_
  refine rb_aload_n X (pc := 95) dX3_becomes_95 rfl rfl ?_
  refine rc_getR X (pc := 96) fX3_34 (rb_obT ht) rfl dX3_becomes_96 ?_
  refine rb_iconst (v := 0) X (pc := 99) dX3_becomes_99 (by decide) ?_
  refine rb_bipush (v := 10) X (pc := 100) dX3_becomes_100 (by decide) ?_
  refine rc_copyAll X (pc := 102) mX3_49 (by decide) (Nat.le_of_ble_eq_true rfl) (rb_arT7 ht2) (rb_arT7 ht) rfl (by decide) (congrFun ((rb_st_ne hne).trans hs) 7) rb_row_st dX3_becomes_102 ?_
  refine rb_aload_n X (pc := 105) dX3_becomes_105 rfl rfl ?_
  refine rc_getR X (pc := 106) fX3_37 (rb_obT ht2) rfl dX3_becomes_106 ?_
  refine rb_iconst (v := 0) X (pc := 109) dX3_becomes_109 (by decide) ?_
  refine rb_aload_n X (pc := 110) dX3_becomes_110 rfl rfl ?_
  refine rc_getR X (pc := 111) fX3_37 (rb_obT ht) rfl dX3_becomes_111 ?_
  refine rb_iconst (v := 0) X (pc := 114) dX3_becomes_114 (by decide) ?_
  refine rb_bipush (v := 10) X (pc := 115) dX3_becomes_115 (by decide) ?_
  refine rc_copyAll X (pc := 117) mX3_49 (by decide) (Nat.le_of_ble_eq_true rfl) (rb_arT8 ht2) (rb_arT8 ht) rfl (by decide) (congrFun ((rb_st_ne hne).trans hs) 8) rb_row_st dX3_becomes_117 ?_
  refine rb_aload_n X (pc := 120) dX3_becomes_120 rfl rfl ?_
  refine rc_getR X (pc := 121) fX3_40 (rb_obT ht2) rfl dX3_becomes_121 ?_
  refine rb_iconst (v := 0) X (pc := 124) dX3_becomes_124 (by decide) ?_
  refine rb_aload_n X (pc := 125) dX3_becomes_125 rfl rfl ?_
  refine rc_getR X (pc := 126) fX3_40 (rb_obT ht) rfl dX3_becomes_126 ?_
  refine rb_iconst (v := 0) X (pc := 129) dX3_becomes_129 (by decide) ?_
  refine rb_bipush (v := 10) X (pc := 130) dX3_becomes_130 (by decide) ?_
  refine rc_copyAll X (pc := 132) mX3_49 (by decide) (Nat.le_of_ble_eq_true rfl) (rb_arT9 ht2) (rb_arT9 ht) rfl (by decide) (congrFun ((rb_st_ne hne).trans hs) 9) rb_row_st dX3_becomes_132 ?_
  refine rb_aload_n X (pc := 135) dX3_becomes_135 rfl rfl ?_
  refine rb_aload_n X (pc := 136) dX3_becomes_136 rfl rfl ?_
  refine rc_getI X (pc := 137) fX3_24 (rb_obT ht2) rfl (congrFun (congrFun ((rb_st_ne hne).trans hs) 4) 0) dX3_becomes_137 ?_
  refine rc_put X (pc := 140) fX3_24 gX3_4 (rb_obT ht) rfl rfl rfl rb_u_st dX3_becomes_140 ?_
  refine rb_aload_n X (pc := 143) dX3_becomes_143 rfl rfl ?_
  refine rb_aload_n X (pc := 144) dX3_becomes_144 rfl rfl ?_
  refine rc_getI X (pc := 145) fX3_43 (rb_obT ht2) rfl (congrFun (congrFun ((rb_st_ne hne).trans hs) 10) 0) dX3_becomes_145 ?_
  refine rc_put X (pc := 148) fX3_43 gX3_10 (rb_obT ht) rfl rfl rfl rb_u_st dX3_becomes_148 ?_
  refine rb_aload_n X (pc := 151) dX3_becomes_151 rfl rfl ?_
  refine rb_aload_n X (pc := 152) dX3_becomes_152 rfl rfl ?_
  refine rc_getI X (pc := 153) fX3_46 (rb_obT ht2) rfl (congrFun (congrFun ((rb_st_ne hne).trans hs) 11) 0) dX3_becomes_153 ?_
  refine rc_put X (pc := 156) fX3_46 gX3_11 (rb_obT ht) rfl rfl rfl rb_u_st dX3_becomes_156 ?_
  refine rb_stC (M' := M2) ht (fun j hj hn => ?_) ⟨by simp [u2, va_up], by simp [u2, va_up], by simp [u2, va_up]⟩ ?_
  · rcases (show j = 0 ∨ j = 1 ∨ j = 2 ∨ j = 3 ∨ j = 5 ∨ j = 6 ∨ j = 7 ∨ j = 8 ∨ j = 9 by omega) with rfl | rfl | rfl | rfl | rfl | rfl | rfl | rfl | rfl <;> rfl
  refine rb_vret (S := []) X (pc := 159) Y dX3_becomes_159 ?_
  exact ⟨rfl, rfl⟩
