theorem sp_drop {Z : rb_Z} {G : rb_G} {nL pc : Nat} {L S : List Value} {h : rb_H} (i : Nat) (k : rb_WP Z G nL pc (L.set i .null) S h) : rb_WP Z G nL pc L S h := by
  obtain ⟨p, l, e, R, s, m, args, below, meth, c, A, cells, slots, Q⟩ := Z
  intro H locs ls hP hS hl
  refine k H locs ls hP hS ⟨hl.1, hl.2.1, fun q hq => hl.2.2 q ?_⟩
  obtain ⟨j, h1, h2, h3⟩ := (rb_pr_mem _ _ _).mp hq
  refine (rb_pr_mem _ _ _).mpr ⟨j, h1, ?_, h3⟩
  by_cases hj : j = i
  · subst hj
    have hl : j < (L.set j .null).length := (List.getElem?_eq_some_iff.mp h2).1
    rw [List.getElem?_set_self (by simpa using hl)] at h2
    exact absurd (Option.some.inj h2).symm h3
  · rwa [List.getElem?_set_ne (Ne.symm hj)] at h2
theorem sp_ct_yes {T : rb_T} {e : Int32} {i : Nat} (h6 : T 6 i = e) (h9 : ¬ T 9 i = -1) : sp_ctF T e (i + 1) = (u2 (sp_ctF T e i).1 9 i (-1), (sp_ctF T e i).2 + 1) := by
  rw [sp_ctF_s]; unfold sp_ct1
  have h9b : (sp_ctF T e i).1 9 i = T 9 i := by rw [sp_ctF_9, if_neg (by omega)]
  rw [sp_ctF_row (by decide), h9b, if_pos ⟨h6, h9⟩]
theorem sp_ct_no {T : rb_T} {e : Int32} {i : Nat} (h : ¬ (T 6 i = e ∧ ¬ T 9 i = -1)) : sp_ctF T e (i + 1) = sp_ctF T e i := by
  rw [sp_ctF_s]; unfold sp_ct1
  have h9b : (sp_ctF T e i).1 9 i = T 9 i := by rw [sp_ctF_9, if_neg (by omega)]
  rw [sp_ctF_row (by decide), h9b, if_neg h]
theorem sp_ctv {h : rb_H} {t j i : Nat} {T : rb_T} {e : Int32} : (tw h t (sp_ctF T e i).1).1 t 9 = (sp_ctF T e i).1 9 := rb_tj9
set_option maxRecDepth 100000 in
set_option maxHeartbeats 1000000 in
theorem lpX3_becomeTrue_4 {Z : rb_Z} {G : rb_G} {h : rb_H} {t : Nat} {T : rb_T} (ht : t < 3) (hok : sp_ok T) {e : Int32} (X : rb_CX Z G cX3_becomeTrue 4 RX3 1) (Y : rb_RT Z G (some .int) (rb_F (some (.int (sp_btn T e))) (tw h t (sp_bt T e)))) : ∀ fu : Nat, ∀ i : Nat, i ≤ sp_n T → sp_n T + 1 ≤ i + fu → rb_WP Z G 4 4 [.ref (rb_ad G t 0), .int e, .int (nI (sp_ctF T e i).2), .int (nI i)] [] (tw h t (sp_ctF T e i).1) := by
  intro fu
  induction fu with
  | zero => intro i hi hf; omega
  | succ fu ih =>
    intro i hi hf
    have hn10 := hok.2.1
    refine rb_iload_n X (pc := 4) dX3_becomeTrue_4 rfl rfl ?_
    refine rb_aload_n X (pc := 5) dX3_becomeTrue_5 rfl rfl ?_
    refine rc_getI X (pc := 6) fX3_24 (rb_obT ht) rfl rb_tf4 dX3_becomeTrue_6 ?_
    refine rb_icmp_ge X (pc := 9) (tgt := 47) dX3_becomeTrue_9 (by decide) (fun c9 => ?_) (fun c9 => ?_)
    · have hi2 := (sp_geI (show (sp_ctF T e i).1 4 0 = nI (sp_n T) by rw [sp_ctF_row (by decide)]; exact hok.1) (by omega) (by omega)).mp c9
      obtain rfl : i = sp_n T := by omega
      refine rb_aload_n X (pc := 47) dX3_becomeTrue_47 rfl rfl ?_
      refine rb_dup X (pc := 48) dX3_becomeTrue_48 rfl ?_
      refine rc_getI X (pc := 49) fX3_46 (rb_obT ht) rfl rb_tf11 dX3_becomeTrue_49 ?_
      refine rb_iconst (v := 1) X (pc := 52) dX3_becomeTrue_52 (by decide) ?_
      refine rb_iload_n X (pc := 53) dX3_becomeTrue_53 rfl rfl ?_
      refine rb_ishl X (pc := 54) dX3_becomeTrue_54 ?_
      refine rb_ior X (pc := 55) dX3_becomeTrue_55 ?_
      refine rc_put X (pc := 56) fX3_46 gX3_11 (rb_obT ht) rfl rfl rfl (tw_u (by decide) (by decide) (by decide)) dX3_becomeTrue_56 ?_
      refine rb_iload_n X (pc := 59) dX3_becomeTrue_59 rfl rfl ?_
      refine rb_iret (S := []) X (pc := 60) Y dX3_becomeTrue_60 ?_
      exact ⟨rfl, rfl⟩
    · have hi2 : i < sp_n T := Nat.lt_of_not_le (fun z => c9 ((sp_geI (show (sp_ctF T e i).1 4 0 = nI (sp_n T) by rw [sp_ctF_row (by decide)]; exact hok.1) (by omega) (by omega)).mpr z))
      have h9 : (sp_ctF T e i).1 9 i = T 9 i := by rw [sp_ctF_9, if_neg (by omega)]
      refine rb_aload_n X (pc := 12) dX3_becomeTrue_12 rfl rfl ?_
      refine rc_getR X (pc := 13) fX3_31 (rb_obT ht) rfl dX3_becomeTrue_13 ?_
      refine rb_iload_n X (pc := 16) dX3_becomeTrue_16 rfl rfl ?_
      refine rc_iald X (pc := 17) _ (rb_arT6 ht) rb_tj6 rfl (by omega) dX3_becomeTrue_17 ?_
      refine rb_iload_n X (pc := 18) dX3_becomeTrue_18 rfl rfl ?_
      refine rb_icmp_ne X (pc := 19) (tgt := 41) dX3_becomeTrue_19 (by decide) (fun c19 => ?_) (fun c19 => ?_)
      · rw [sp_ctF_row (by decide)] at c19
        refine rb_iinc X (pc := 41) dX3_becomeTrue_41 rfl (sp_inc _) (by decide) rfl rfl ?_
        refine rb_goto X (pc := 44) (tgt := 4) dX3_becomeTrue_44 (by decide) ?_
        first
        | exact sp_go (by rw [sp_ct_yes (by simpa using c19) c29]; rfl) (by rw [sp_ct_yes (by simpa using c19) c29]) (ih (i + 1) (by omega) (by omega))
        | exact sp_go (by rw [sp_ct_no (by simp_all)]; rfl) (by rw [sp_ct_no (by simp_all)]) (ih (i + 1) (by omega) (by omega))
      · rw [sp_ctF_row (by decide)] at c19
        refine rb_aload_n X (pc := 22) dX3_becomeTrue_22 rfl rfl ?_
        refine rc_getR X (pc := 23) fX3_40 (rb_obT ht) rfl dX3_becomeTrue_23 ?_
        refine rb_iload_n X (pc := 26) dX3_becomeTrue_26 rfl rfl ?_
        refine rc_iald X (pc := 27) _ (rb_arT9 ht) rb_tj9 rfl (by omega) dX3_becomeTrue_27 ?_
        refine rb_iconst (v := (-1)) X (pc := 28) dX3_becomeTrue_28 (by decide) ?_
        refine rb_icmp_eq X (pc := 29) (tgt := 41) dX3_becomeTrue_29 (by decide) (fun c29 => ?_) (fun c29 => ?_)
        · rw [h9] at c29
          refine rb_iinc X (pc := 41) dX3_becomeTrue_41 rfl (sp_inc _) (by decide) rfl rfl ?_
          refine rb_goto X (pc := 44) (tgt := 4) dX3_becomeTrue_44 (by decide) ?_
          first
          | exact sp_go (by rw [sp_ct_yes (by simpa using c19) c29]; rfl) (by rw [sp_ct_yes (by simpa using c19) c29]) (ih (i + 1) (by omega) (by omega))
          | exact sp_go (by rw [sp_ct_no (by simp_all)]; rfl) (by rw [sp_ct_no (by simp_all)]) (ih (i + 1) (by omega) (by omega))
        · rw [h9] at c29
          refine rb_aload_n X (pc := 32) dX3_becomeTrue_32 rfl rfl ?_
          refine rb_iload_n X (pc := 33) dX3_becomeTrue_33 rfl rfl ?_
          refine rb_iconst (v := (-1)) X (pc := 34) dX3_becomeTrue_34 (by decide) ?_
          refine rc_callVv X (pc := 35) cvX3_lodge mX3_92 (rb_obT ht) (qX3_lodge ht (T := (sp_ctF T e i).1) (r := i) (by rw [sp_ctF_n]; exact hi2) (by rw [sp_ctF_n]; exact hok.2.1) (by rw [h9]; exact (hok.2.2.1 i (by have := hok.2.1; omega)).2.2.2.2) (Or.inl rfl)) (by decide) rfl rfl (Nat.le_of_ble_eq_true rfl) dX3_becomeTrue_35 ?_
          refine rb_iinc X (pc := 38) dX3_becomeTrue_38 rfl (sp_inc _) (by decide) rfl rfl ?_
          refine rb_iinc X (pc := 41) dX3_becomeTrue_41 rfl (sp_inc _) (by decide) rfl rfl ?_
          refine rb_goto X (pc := 44) (tgt := 4) dX3_becomeTrue_44 (by decide) ?_
          first
          | exact sp_go (by rw [sp_ct_yes (by simpa using c19) c29]; rfl) (by rw [sp_ct_yes (by simpa using c19) c29]) (ih (i + 1) (by omega) (by omega))
          | exact sp_go (by rw [sp_ct_no (by simp_all)]; rfl) (by rw [sp_ct_no (by simp_all)]) (ih (i + 1) (by omega) (by omega))
set_option maxRecDepth 100000 in
set_option maxHeartbeats 1000000 in
theorem qX3_becomeTrue {G : rb_G} {h : rb_H} {t : Nat} {T : rb_T} (ht : t < 3) (hok : sp_ok T) (e : Int32) : rb_M G 1 yX3_becomeTrue cX3_becomeTrue 4 (some .int) [.ref (rb_ad G t 0), .int e] (tw h t T) (rb_F (some (.int (sp_btn T e))) (tw h t (sp_bt T e))) := by
  refine rb_meth (L := [.ref (rb_ad G t 0), .int e, .null, .null]) (by decide) (Nat.le_of_ble_eq_true rfl) rfl (fun Z X Y => ?_)
  have X : rb_CX Z G cX3_becomeTrue 4 RX3 1 := X
  refine rb_iconst (v := 0) X (pc := 0) dX3_becomeTrue_0 (by decide) ?_
  refine rb_istore_n X (pc := 1) dX3_becomeTrue_1 rfl (by decide) rfl rfl ?_
  refine rb_iconst (v := 0) X (pc := 2) dX3_becomeTrue_2 (by decide) ?_
  refine rb_istore_n X (pc := 3) dX3_becomeTrue_3 rfl (by decide) rfl rfl ?_
  exact sp_go rfl rfl (lpX3_becomeTrue_4 ht hok X Y (sp_n T + 1) 0 (by omega) (by omega))
theorem sp_mod8 {p b : Nat} (hp : p < 2 ^ 20) (hb : b < 2 ^ 20) : (nI p + nI b) - (nI p + nI b) / 8 * 8 = nI ((p + b) % 8) := by
  rw [nI_add]; exact pk_rem (d := 8) (by omega) (by omega) (by omega)
set_option maxRecDepth 100000 in
set_option maxHeartbeats 1000000 in
theorem lpX3_improveBy_36 {Z : rb_Z} {G : rb_G} {h : rb_H} {t : Nat} {T : rb_T} (ht : t < 3) {r p : Nat} {v : Int32} (hr : r < sp_n T) (hn10 : sp_n T ≤ 10) (hp1 : p < 8) (hp : T 9 r = nI p) (X : rb_CX Z G cX3_improveBy 7 RX3 2) (Y : rb_RT Z G none (rb_F none (tw h t (sp_imp T r v)))) : ∀ fu : Nat, ∀ b : Nat, b ≤ 7 → 8 ≤ b + fu → (∀ c, c < b → decide (sp_tk (sp_imp1 T r v) (sp_nx (sp_imp1 T r v) r (c + 1)) (sp_nR (sp_imp1 T r v) r)) = false) → rb_WP Z G 7 36 [.ref (rb_ad G t 0), .int (nI r), .int v, .int (nI p), .int (sp_nR (sp_imp1 T r v) r), .int (nI (b + 1)), .null] [] (tw h t (sp_imp1 T r v)) := by
  intro fu
  induction fu with
  | zero => intro b hb hf hno; omega
  | succ fu ih =>
    intro b hb hf hno
    refine rb_iload X (pc := 36) dX3_improveBy_36 rfl ?_
    refine rb_bipush (v := 8) X (pc := 38) dX3_improveBy_38 (by decide) ?_
    refine rb_icmp_ge X (pc := 40) (tgt := 77) dX3_improveBy_40 (by decide) (fun c40 => ?_) (fun c40 => ?_)
    · have hb2 := (sp_geI (n := 8) rfl (by omega) (by omega)).mp c40
      obtain rfl : b = 7 := by omega
      refine rb_vret (S := []) X (pc := 77) Y dX3_improveBy_77 ?_
      have hf1 : sp_impF (sp_imp1 T r v) r = 7 := fa_first_none hno
      exact ⟨rfl, by unfold sp_imp; rw [hf1, if_neg (by omega)]⟩
    · have hb2 : b + 1 < 8 := Nat.lt_of_not_le (fun z => c40 ((sp_geI (n := 8) rfl (by omega) (by omega)).mpr z))
      have hnx : sp_nx (sp_imp1 T r v) r (b + 1) = (p + (b + 1)) % 8 := by
        unfold sp_nx
        rw [show sp_imp1 T r v 9 r = nI p from hp, nI_clamp (by omega)]
      refine rb_iload_n X (pc := 43) dX3_improveBy_43 rfl rfl ?_
      refine rb_iload X (pc := 44) dX3_improveBy_44 rfl ?_
      refine rb_iadd X (pc := 46) dX3_improveBy_46 ?_
      refine rb_bipush (v := 8) X (pc := 47) dX3_improveBy_47 (by decide) ?_
      refine rb_irem X (pc := 49) dX3_improveBy_49 (by decide) ?_
      rw [sp_mod8 (by omega) (by omega)]
      refine rb_istore X (pc := 50) dX3_improveBy_50 (by decide) rfl rfl ?_
      refine rb_aload_n X (pc := 52) dX3_improveBy_52 rfl rfl ?_
      refine rb_iload X (pc := 53) dX3_improveBy_53 rfl ?_
      refine rb_iload X (pc := 55) dX3_improveBy_55 rfl ?_
      refine rc_callVi X (pc := 57) cvX3_wouldTake mX3_83 (rb_obT ht) (qX3_wouldTake ht (T := sp_imp1 T r v) (q := (p + (b + 1)) % 8) (Nat.mod_lt _ (by decide)) _) (by decide) rfl rfl (Nat.le_of_ble_eq_true rfl) dX3_improveBy_57 ?_
      refine rb_if_eq X (pc := 60) (tgt := 71) dX3_improveBy_60 (by decide) (fun c60 => ?_) (fun c60 => ?_)
      · (try simp only [sp_b0, Classical.not_not] at c60)
        refine rb_iinc X (pc := 71) dX3_improveBy_71 rfl (sp_inc _) (by decide) rfl rfl ?_
        refine rb_goto X (pc := 74) (tgt := 36) dX3_improveBy_74 (by decide) ?_
        refine sp_drop 6 ?_
        exact ih (b + 1) (by omega) (by omega) (fun c hc => by
          by_cases e : c = b
          · subst e; rw [hnx]; exact decide_eq_false c60
          · exact hno c (by omega))
      · (try simp only [sp_b0, Classical.not_not] at c60)
        refine rb_aload_n X (pc := 63) dX3_improveBy_63 rfl rfl ?_
        refine rb_iload_n X (pc := 64) dX3_improveBy_64 rfl rfl ?_
        refine rb_iload X (pc := 65) dX3_improveBy_65 rfl ?_
        refine rc_callVv X (pc := 67) cvX3_lodge mX3_92 (rb_obT ht) (qX3_lodge ht (T := sp_imp1 T r v) (r := r) (to := nI ((p + (b + 1)) % 8)) hr hn10 (Or.inr ⟨p, hp1, hp⟩) (Or.inr ⟨_, Nat.mod_lt _ (by decide), rfl⟩)) (by decide) rfl rfl (Nat.le_of_ble_eq_true rfl) dX3_improveBy_67 ?_
        refine rb_vret (S := []) X (pc := 70) Y dX3_improveBy_70 ?_
        have hf1 : sp_impF (sp_imp1 T r v) r = b := fa_first_eq (by omega) (by rw [hnx]; exact decide_eq_true c60) hno
        exact ⟨rfl, by unfold sp_imp; rw [hf1, if_pos (by omega), hnx]⟩
set_option maxRecDepth 100000 in
set_option maxHeartbeats 1000000 in
theorem qX3_improveBy {G : rb_G} {h : rb_H} {t : Nat} {T : rb_T} (ht : t < 3) {r p : Nat} {v : Int32} (hr : r < sp_n T) (hn10 : sp_n T ≤ 10) (hp1 : p < 8) (hp : T 9 r = nI p) : rb_M G 2 yX3_improveBy cX3_improveBy 7 none [.ref (rb_ad G t 0), .int (nI r), .int v] (tw h t T) (rb_F none (tw h t (sp_imp T r v))) := by
  refine rb_meth (L := [.ref (rb_ad G t 0), .int (nI r), .int v, .null, .null, .null, .null]) (by decide) (Nat.le_of_ble_eq_true rfl) rfl (fun Z X Y => ?_)
  have X : rb_CX Z G cX3_improveBy 7 RX3 2 := X
  refine rb_aload_n X (pc := 0) dX3_improveBy_0 rfl rfl ?_
  refine rc_getR X (pc := 1) fX3_34 (rb_obT ht) rfl dX3_improveBy_1 ?_
  refine rb_iload_n X (pc := 4) dX3_improveBy_4 rfl rfl ?_
  refine rb_bipush (v := 99) X (pc := 5) dX3_improveBy_5 (by decide) ?_
  refine rb_aload_n X (pc := 7) dX3_improveBy_7 rfl rfl ?_
  refine rc_getR X (pc := 8) fX3_34 (rb_obT ht) rfl dX3_improveBy_8 ?_
  refine rb_iload_n X (pc := 11) dX3_improveBy_11 rfl rfl ?_
  refine rc_iald X (pc := 12) _ (rb_arT7 ht) rb_tj7 rfl (by omega) dX3_improveBy_12 ?_
  refine rb_iload_n X (pc := 13) dX3_improveBy_13 rfl rfl ?_
  refine rb_iadd X (pc := 14) dX3_improveBy_14 ?_
  refine rc_mmin X (pc := 15) mX3_87 (by decide) (Nat.le_of_ble_eq_true rfl) dX3_improveBy_15 ?_
  refine rc_iast X (pc := 18) _ (rb_arT7 ht) (tw_u (by decide) (by decide) (by decide)) rfl (by omega) dX3_improveBy_18 ?_
  refine rb_aload_n X (pc := 19) dX3_improveBy_19 rfl rfl ?_
  refine rc_getR X (pc := 20) fX3_40 (rb_obT ht) rfl dX3_improveBy_20 ?_
  refine rb_iload_n X (pc := 23) dX3_improveBy_23 rfl rfl ?_
  refine rc_iald X (pc := 24) _ (rb_arT9 ht) rb_tj9 rfl (by omega) dX3_improveBy_24 ?_
  refine rb_istore_n X (pc := 25) dX3_improveBy_25 rfl (by decide) rfl rfl ?_
  rw [show u2 T 7 r (if T 7 r + v < 99 then T 7 r + v else 99) 9 r = nI p from hp]
  refine rb_aload_n X (pc := 26) dX3_improveBy_26 rfl rfl ?_
  refine rb_iload_n X (pc := 27) dX3_improveBy_27 rfl rfl ?_
  refine rc_callVi X (pc := 28) cvX3_needsOf mX3_79 (rb_obT ht) (qX3_needsOf ht (T := sp_imp1 T r v) (by omega)) (by decide) rfl rfl (Nat.le_of_ble_eq_true rfl) dX3_improveBy_28 ?_
  refine rb_istore X (pc := 31) dX3_improveBy_31 (by decide) rfl rfl ?_
  refine rb_iconst (v := 1) X (pc := 33) dX3_improveBy_33 (by decide) ?_
  refine rb_istore X (pc := 34) dX3_improveBy_34 (by decide) rfl rfl ?_
  exact sp_go rfl rfl (lpX3_improveBy_36 ht hr hn10 hp1 hp X Y 8 0 (by omega) (by omega) (fun c hc => absurd hc (by omega)))
set_option maxRecDepth 100000 in
set_option maxHeartbeats 1000000 in
theorem lpX3_pairedEvent_59 {Z : rb_Z} {G : rb_G} {h : rb_H} {t : Nat} {T : rb_T} (ht : t < 3) {q : Nat} {on tw2 : Int32} (hmk : sp_mk T q on tw2 (sp_n T)) (X : rb_CX Z G cX3_pairedEvent 6 RX3 0) (Y : rb_RT Z G (some .int) (rb_F (some (.int (if sp_pair T q = 16 then -1 else nI (sp_pair T q)))) (tw h t T))) : ∀ fu : Nat, ∀ e : Nat, e ≤ 16 → 17 ≤ e + fu → (∀ c, c < e → decide (2 ≤ sp_pc T q c (sp_n T)) = false) → rb_WP Z G 6 59 [.ref (rb_ad G t 0), .int (nI q), .int on, .int tw2, .int (nI e), .null] [] (tw h t T) := by
  intro fu
  induction fu with
  | zero => intro e he hf hno; omega
  | succ fu ih =>
    intro e he hf hno
    refine rb_iload X (pc := 59) dX3_pairedEvent_59 rfl ?_
    refine rb_bipush (v := 16) X (pc := 61) dX3_pairedEvent_61 (by decide) ?_
    refine rb_icmp_ge X (pc := 63) (tgt := 84) dX3_pairedEvent_63 (by decide) (fun c63 => ?_) (fun c63 => ?_)
    · have he2 := (sp_geI (n := 16) rfl (by omega) (by omega)).mp c63
      obtain rfl : e = 16 := by omega
      refine rb_iconst (v := (-1)) X (pc := 84) dX3_pairedEvent_84 (by decide) ?_
      refine rb_iret (S := []) X (pc := 85) Y dX3_pairedEvent_85 ?_
      have hf1 : sp_pair T q = 16 := fa_first_none hno
      exact ⟨by rw [if_pos hf1], rfl⟩
    · have he2 : e < 16 := Nat.lt_of_not_le (fun z => c63 ((sp_geI (n := 16) rfl (by omega) (by omega)).mpr z))
      refine rb_iload_n X (pc := 66) dX3_pairedEvent_66 rfl rfl ?_
      refine rb_iconst (v := 1) X (pc := 67) dX3_pairedEvent_67 (by decide) ?_
      refine rb_iload X (pc := 68) dX3_pairedEvent_68 rfl ?_
      refine rb_ishl X (pc := 70) dX3_pairedEvent_70 ?_
      refine rb_iand X (pc := 71) dX3_pairedEvent_71 ?_
      refine rb_if_eq X (pc := 72) (tgt := 78) dX3_pairedEvent_72 (by decide) (fun c72 => ?_) (fun c72 => ?_)
      · rw [sp_bitz (by omega), (hmk e he2).2] at c72
        refine rb_iinc X (pc := 78) dX3_pairedEvent_78 rfl (sp_inc _) (by decide) rfl rfl ?_
        refine rb_goto X (pc := 81) (tgt := 59) dX3_pairedEvent_81 (by decide) ?_
        exact ih (e + 1) (by omega) (by omega) (fun c hc => by
          by_cases ee : c = e
          · subst ee; exact c72
          · exact hno c (by omega))
      · rw [sp_bitT (by omega), (hmk e he2).2] at c72
        refine rb_iload X (pc := 75) dX3_pairedEvent_75 rfl ?_
        refine rb_iret (S := []) X (pc := 77) Y dX3_pairedEvent_77 ?_
        have hf1 : sp_pair T q = e := fa_first_eq he2 c72 hno
        exact ⟨by rw [hf1, if_neg (by omega)], rfl⟩
set_option maxRecDepth 100000 in
set_option maxHeartbeats 1000000 in
theorem lpX3_pairedEvent_7 {Z : rb_Z} {G : rb_G} {h : rb_H} {t : Nat} {T : rb_T} (ht : t < 3) (hok : sp_ok T) {q : Nat} (X : rb_CX Z G cX3_pairedEvent 6 RX3 0) (Y : rb_RT Z G (some .int) (rb_F (some (.int (if sp_pair T q = 16 then -1 else nI (sp_pair T q)))) (tw h t T))) : ∀ fu : Nat, ∀ (i : Nat) (on tw2 : Int32), i ≤ sp_n T → sp_n T + 1 ≤ i + fu → sp_mk T q on tw2 i → rb_WP Z G 6 7 [.ref (rb_ad G t 0), .int (nI q), .int on, .int tw2, .int (nI i), .null] [] (tw h t T) := by
  intro fu
  induction fu with
  | zero => intro i on tw2 hi hf hmk; omega
  | succ fu ih =>
    intro i on tw2 hi hf hmk
    have hn10 := hok.2.1
    refine rb_iload X (pc := 7) dX3_pairedEvent_7 rfl ?_
    refine rb_aload_n X (pc := 9) dX3_pairedEvent_9 rfl rfl ?_
    refine rc_getI X (pc := 10) fX3_24 (rb_obT ht) rfl rb_tf4 dX3_pairedEvent_10 ?_
    refine rb_icmp_ge X (pc := 13) (tgt := 56) dX3_pairedEvent_13 (by decide) (fun c13 => ?_) (fun c13 => ?_)
    · have hi2 := (sp_geI hok.1 (by omega) (by omega)).mp c13
      obtain rfl : i = sp_n T := by omega
      refine rb_iconst (v := 0) X (pc := 56) dX3_pairedEvent_56 (by decide) ?_
      refine rb_istore X (pc := 57) dX3_pairedEvent_57 (by decide) rfl rfl ?_
      exact lpX3_pairedEvent_59 ht hmk X Y 17 0 (by omega) (by omega) (fun c hc => absurd hc (by omega))
    · have hi2 : i < sp_n T := Nat.lt_of_not_le (fun z => c13 ((sp_geI hok.1 (by omega) (by omega)).mpr z))
      refine rb_aload_n X (pc := 16) dX3_pairedEvent_16 rfl rfl ?_
      refine rc_getR X (pc := 17) fX3_40 (rb_obT ht) rfl dX3_pairedEvent_17 ?_
      refine rb_iload X (pc := 20) dX3_pairedEvent_20 rfl ?_
      refine rc_iald X (pc := 22) _ (rb_arT9 ht) rb_tj9 rfl (by omega) dX3_pairedEvent_22 ?_
      refine rb_iload_n X (pc := 23) dX3_pairedEvent_23 rfl rfl ?_
      refine rb_icmp_ne X (pc := 24) (tgt := 50) dX3_pairedEvent_24 (by decide) (fun c24 => ?_) (fun c24 => ?_)
      · refine rb_iinc X (pc := 50) dX3_pairedEvent_50 rfl (sp_inc _) (by decide) rfl rfl ?_
        refine rb_goto X (pc := 53) (tgt := 7) dX3_pairedEvent_53 (by decide) ?_
        first
        | exact ih (i + 1) _ _ (by omega) (by omega) (sp_mk_no hmk c24)
        | (obtain ⟨m, hm1, hm2⟩ := (hok.2.2.1 i (by omega)).2.1
           exact sp_drop 5 (ih (i + 1) _ _ (by omega) (by omega) (sp_mk_yes hmk (by simpa using c24) hm1 hm2)))
      · refine rb_iconst (v := 1) X (pc := 27) dX3_pairedEvent_27 (by decide) ?_
        refine rb_aload_n X (pc := 28) dX3_pairedEvent_28 rfl rfl ?_
        refine rc_getR X (pc := 29) fX3_31 (rb_obT ht) rfl dX3_pairedEvent_29 ?_
        refine rb_iload X (pc := 32) dX3_pairedEvent_32 rfl ?_
        refine rc_iald X (pc := 34) _ (rb_arT6 ht) rb_tj6 rfl (by omega) dX3_pairedEvent_34 ?_
        refine rb_ishl X (pc := 35) dX3_pairedEvent_35 ?_
        refine rb_istore X (pc := 36) dX3_pairedEvent_36 (by decide) rfl rfl ?_
        refine rb_iload_n X (pc := 38) dX3_pairedEvent_38 rfl rfl ?_
        refine rb_iload_n X (pc := 39) dX3_pairedEvent_39 rfl rfl ?_
        refine rb_iload X (pc := 40) dX3_pairedEvent_40 rfl ?_
        refine rb_iand X (pc := 42) dX3_pairedEvent_42 ?_
        refine rb_ior X (pc := 43) dX3_pairedEvent_43 ?_
        refine rb_istore_n X (pc := 44) dX3_pairedEvent_44 rfl (by decide) rfl rfl ?_
        refine rb_iload_n X (pc := 45) dX3_pairedEvent_45 rfl rfl ?_
        refine rb_iload X (pc := 46) dX3_pairedEvent_46 rfl ?_
        refine rb_ior X (pc := 48) dX3_pairedEvent_48 ?_
        refine rb_istore_n X (pc := 49) dX3_pairedEvent_49 rfl (by decide) rfl rfl ?_
        refine rb_iinc X (pc := 50) dX3_pairedEvent_50 rfl (sp_inc _) (by decide) rfl rfl ?_
        refine rb_goto X (pc := 53) (tgt := 7) dX3_pairedEvent_53 (by decide) ?_
        first
        | exact ih (i + 1) _ _ (by omega) (by omega) (sp_mk_no hmk c24)
        | (obtain ⟨m, hm1, hm2⟩ := (hok.2.2.1 i (by omega)).2.1
           exact sp_drop 5 (ih (i + 1) _ _ (by omega) (by omega) (sp_mk_yes hmk (by simpa using c24) hm1 hm2)))
set_option maxRecDepth 100000 in
set_option maxHeartbeats 1000000 in
theorem qX3_pairedEvent {G : rb_G} {h : rb_H} {t : Nat} {T : rb_T} (ht : t < 3) (hok : sp_ok T) (q : Nat) : rb_M G 0 yX3_pairedEvent cX3_pairedEvent 6 (some .int) [.ref (rb_ad G t 0), .int (nI q)] (tw h t T) (rb_F (some (.int (if sp_pair T q = 16 then -1 else nI (sp_pair T q)))) (tw h t T)) := by
  refine rb_meth (L := [.ref (rb_ad G t 0), .int (nI q), .null, .null, .null, .null]) (by decide) (Nat.le_of_ble_eq_true rfl) rfl (fun Z X Y => ?_)
  have X : rb_CX Z G cX3_pairedEvent 6 RX3 0 := X
  refine rb_iconst (v := 0) X (pc := 0) dX3_pairedEvent_0 (by decide) ?_
  refine rb_istore_n X (pc := 1) dX3_pairedEvent_1 rfl (by decide) rfl rfl ?_
  refine rb_iconst (v := 0) X (pc := 2) dX3_pairedEvent_2 (by decide) ?_
  refine rb_istore_n X (pc := 3) dX3_pairedEvent_3 rfl (by decide) rfl rfl ?_
  refine rb_iconst (v := 0) X (pc := 4) dX3_pairedEvent_4 (by decide) ?_
  refine rb_istore X (pc := 5) dX3_pairedEvent_5 (by decide) rfl rfl ?_
  exact sp_go rfl rfl (lpX3_pairedEvent_7 ht hok X Y (sp_n T + 1) 0 0 0 (by omega) (by omega) sp_mk0)
