theorem u2_cm {T : rb_T} {j i j' i' : Nat} {v v' : Int32} (h : j ≠ j') : u2 (u2 T j i v) j' i' v' = u2 (u2 T j' i' v') j i v := by
  funext a b
  simp only [u2_if2]
  by_cases e1 : a = j ∧ b = i
  · simp only [if_neg (show ¬ (a = j' ∧ b = i') from by omega), if_pos e1]
  · by_cases e2 : a = j' ∧ b = i'
    · simp only [if_neg e1, if_pos e2]
    · simp only [if_neg e1, if_neg e2]
theorem u2_u2 {T : rb_T} {j i : Nat} {v v' : Int32} : u2 (u2 T j i v) j i v' = u2 T j i v' := by
  funext a b
  simp only [u2_if2]
  by_cases e1 : a = j ∧ b = i
  · rw [if_pos e1, if_pos e1]
  · rw [if_neg e1, if_neg e1, if_neg e1]
theorem ct1_11 {a : rb_T × Nat} {r : Nat} {e x : Int32} : sp_ct1 r e (u2 a.1 11 0 x, a.2) = (u2 (sp_ct1 r e a).1 11 0 x, (sp_ct1 r e a).2) := by
  unfold sp_ct1
  by_cases hc : a.1 6 r = e ∧ ¬ a.1 9 r = -1
  · rw [if_pos hc, if_pos (show (u2 a.1 11 0 x, a.2).1 6 r = e ∧ ¬ (u2 a.1 11 0 x, a.2).1 9 r = -1 from hc)]; exact Prod.ext (u2_cm (by decide)) rfl
  · rw [if_neg hc, if_neg (show ¬ ((u2 a.1 11 0 x, a.2).1 6 r = e ∧ ¬ (u2 a.1 11 0 x, a.2).1 9 r = -1) from hc)]
theorem ct_11 {T : rb_T} {e x : Int32} : ∀ n, sp_ctF (u2 T 11 0 x) e n = (u2 (sp_ctF T e n).1 11 0 x, (sp_ctF T e n).2)
  | 0 => rfl
  | n + 1 => by rw [sp_ctF_s, sp_ctF_s, ct_11 n, ct1_11]
set_option maxRecDepth 100000 in
set_option maxHeartbeats 1000000 in
theorem lpX5_becomesTrue_16 {Z : rb_Z} {G : rb_G} {h : rb_H} {T : rb_T} (hn : T 4 0 = nI (sp_n T)) (hn10 : sp_n T ≤ 10) {e : Int32} (X : rb_CX Z G cX5_becomesTrue 4 RX5 2) (Y : rb_RT Z G (some .int) (rb_F (some (.int (nI (sp_ctF T e (sp_n T)).2))) (ms h (sp_ctF T e (sp_n T)).1))) : ∀ fu : Nat, ∀ i : Nat, i ≤ sp_n T → sp_n T + 1 ≤ i + fu → rb_WP Z G 4 16 [.ref (rb_ad G 9 0), .int e, .int (nI (sp_ctF T e i).2), .int (nI i)] [] (ms h (sp_ctF T e i).1) := by
  intro fu
  induction fu with
  | zero => intro i hi hf; omega
  | succ fu ih =>
    intro i hi hf
    refine rb_iload_n X (pc := 16) dX5_becomesTrue_16 rfl rfl ?_
    refine rb_aload_n X (pc := 17) dX5_becomesTrue_17 rfl rfl ?_
    refine rc_getR X (pc := 18) fX5_7 rb_ob9 rfl dX5_becomesTrue_18 ?_
    refine rb_iconst (v := 0) X (pc := 21) dX5_becomesTrue_21 (by decide) ?_
    refine rc_ialdv X (pc := 22) 0 rb_ar9_0 (ms_0.trans (by rw [sp_ctF_row (by decide)])) rfl (by decide) dX5_becomesTrue_22 ?_
    refine rb_icmp_ge X (pc := 23) (tgt := 66) dX5_becomesTrue_23 (by decide) (fun c23 => ?_) (fun c23 => ?_)
    · have hi2 := (sp_geI hn (by omega) (by omega)).mp c23
      obtain rfl : i = sp_n T := by omega
      refine rb_iload_n X (pc := 66) dX5_becomesTrue_66 rfl rfl ?_
      refine rb_iret (S := []) X (pc := 67) Y dX5_becomesTrue_67 ?_
      exact ⟨rfl, rfl⟩
    · have hi2 : i < sp_n T := Nat.lt_of_not_le (fun z => c23 ((sp_geI hn (by omega) (by omega)).mpr z))
      have h9 : (sp_ctF T e i).1 9 i = T 9 i := by rw [sp_ctF_9, if_neg (by omega)]
      refine rb_aload_n X (pc := 26) dX5_becomesTrue_26 rfl rfl ?_
      refine rb_iload_n X (pc := 27) dX5_becomesTrue_27 rfl rfl ?_
      refine rb_iconst (v := 1) X (pc := 28) dX5_becomesTrue_28 (by decide) ?_
      refine rc_callVi X (pc := 29) cvX5_its mX5_78 rb_ob9 (qI1 (by omega)) (by decide) rfl rfl (Nat.le_of_ble_eq_true rfl) dX5_becomesTrue_29 ?_
      refine rb_iload_n X (pc := 32) dX5_becomesTrue_32 rfl rfl ?_
      refine rb_icmp_ne X (pc := 33) (tgt := 60) dX5_becomesTrue_33 (by decide) (fun c33 => ?_) (fun c33 => ?_)
      · rw [sp_ctF_row (by decide)] at c33
        refine rb_iinc X (pc := 60) dX5_becomesTrue_60 rfl (sp_inc _) (by decide) rfl rfl ?_
        refine rb_goto X (pc := 63) (tgt := 16) dX5_becomesTrue_63 (by decide) ?_
        first
        | exact sp_go (by rw [sp_ct_yes (by simpa using c33) c43]; rfl) (by rw [sp_ct_yes (by simpa using c33) c43]) (ih (i + 1) (by omega) (by omega))
        | exact sp_go (by rw [sp_ct_no (by simp_all)]; rfl) (by rw [sp_ct_no (by simp_all)]) (ih (i + 1) (by omega) (by omega))
      · rw [sp_ctF_row (by decide)] at c33
        refine rb_aload_n X (pc := 36) dX5_becomesTrue_36 rfl rfl ?_
        refine rb_iload_n X (pc := 37) dX5_becomesTrue_37 rfl rfl ?_
        refine rb_iconst (v := 4) X (pc := 38) dX5_becomesTrue_38 (by decide) ?_
        refine rc_callVi X (pc := 39) cvX5_its mX5_78 rb_ob9 (qI4 (by omega)) (by decide) rfl rfl (Nat.le_of_ble_eq_true rfl) dX5_becomesTrue_39 ?_
        refine rb_iconst (v := (-1)) X (pc := 42) dX5_becomesTrue_42 (by decide) ?_
        refine rb_icmp_eq X (pc := 43) (tgt := 60) dX5_becomesTrue_43 (by decide) (fun c43 => ?_) (fun c43 => ?_)
        · rw [h9] at c43
          refine rb_iinc X (pc := 60) dX5_becomesTrue_60 rfl (sp_inc _) (by decide) rfl rfl ?_
          refine rb_goto X (pc := 63) (tgt := 16) dX5_becomesTrue_63 (by decide) ?_
          first
          | exact sp_go (by rw [sp_ct_yes (by simpa using c33) c43]; rfl) (by rw [sp_ct_yes (by simpa using c33) c43]) (ih (i + 1) (by omega) (by omega))
          | exact sp_go (by rw [sp_ct_no (by simp_all)]; rfl) (by rw [sp_ct_no (by simp_all)]) (ih (i + 1) (by omega) (by omega))
        · rw [h9] at c43
          refine rb_aload_n X (pc := 46) dX5_becomesTrue_46 rfl rfl ?_
          refine rc_getR X (pc := 47) fX5_7 rb_ob9 rfl dX5_becomesTrue_47 ?_
          refine rb_iload_n X (pc := 50) dX5_becomesTrue_50 rfl rfl ?_
          refine rb_iconst (v := 4) X (pc := 51) dX5_becomesTrue_51 (by decide) ?_
          refine rc_callSi X (pc := 52) cvX5_spotOf mX5_56 (qX5_spotOf (w := 4)) (by decide) rfl rfl (Nat.le_of_ble_eq_true rfl) dX5_becomesTrue_52 ?_
          refine rb_iconst (v := (-1)) X (pc := 55) dX5_becomesTrue_55 (by decide) ?_
          refine rc_iast X (pc := 56) _ rb_ar9_0 (ms_r4 (by omega)) rfl (by omega) dX5_becomesTrue_56 ?_
          refine rb_iinc X (pc := 57) dX5_becomesTrue_57 rfl (sp_inc _) (by decide) rfl rfl ?_
          refine rb_iinc X (pc := 60) dX5_becomesTrue_60 rfl (sp_inc _) (by decide) rfl rfl ?_
          refine rb_goto X (pc := 63) (tgt := 16) dX5_becomesTrue_63 (by decide) ?_
          first
          | exact sp_go (by rw [sp_ct_yes (by simpa using c33) c43]; rfl) (by rw [sp_ct_yes (by simpa using c33) c43]) (ih (i + 1) (by omega) (by omega))
          | exact sp_go (by rw [sp_ct_no (by simp_all)]; rfl) (by rw [sp_ct_no (by simp_all)]) (ih (i + 1) (by omega) (by omega))
theorem bt_e {T : rb_T} {e : Int32} : (sp_ctF (u2 T 11 0 (T 11 0 ||| ((1 : Int32) <<< (e &&& 31)))) e (sp_n (u2 T 11 0 (T 11 0 ||| ((1 : Int32) <<< (e &&& 31)))))).1 = sp_bt T e := by
  rw [sp_n_u2 (by decide), ct_11]
  unfold sp_bt
  rw [sp_ctF_row (j := 11) (by decide)]
theorem btn_e {T : rb_T} {e : Int32} : nI (sp_ctF (u2 T 11 0 (T 11 0 ||| ((1 : Int32) <<< (e &&& 31)))) e (sp_n (u2 T 11 0 (T 11 0 ||| ((1 : Int32) <<< (e &&& 31)))))).2 = sp_btn T e := by
  rw [sp_n_u2 (by decide), ct_11]; rfl
set_option maxRecDepth 100000 in
set_option maxHeartbeats 1000000 in
theorem qX5_becomesTrue {G : rb_G} {h : rb_H} {T : rb_T} (hn : T 4 0 = nI (sp_n T)) (hn10 : sp_n T ≤ 10) (e : Int32) : rb_M G 2 yX5_becomesTrue cX5_becomesTrue 4 (some .int) [.ref (rb_ad G 9 0), .int e] (ms h T) (rb_F (some (.int (sp_btn T e))) (ms h (sp_bt T e))) := by
  refine rb_meth (L := [.ref (rb_ad G 9 0), .int e, .null, .null]) (by decide) (Nat.le_of_ble_eq_true rfl) rfl (fun Z X Y => ?_)
  have X : rb_CX Z G cX5_becomesTrue 4 RX5 2 := X
  refine rb_iconst (v := 0) X (pc := 0) dX5_becomesTrue_0 (by decide) ?_
  refine rb_istore_n X (pc := 1) dX5_becomesTrue_1 rfl (by decide) rfl rfl ?_
  refine rb_aload_n X (pc := 2) dX5_becomesTrue_2 rfl rfl ?_
  refine rc_getR X (pc := 3) fX5_7 rb_ob9 rfl dX5_becomesTrue_3 ?_
  refine rb_iconst (v := 2) X (pc := 6) dX5_becomesTrue_6 (by decide) ?_
  refine rb_dup2 X (pc := 7) dX5_becomesTrue_7 rfl rfl ?_
  refine rc_ialdv X (pc := 8) 2 rb_ar9_0 ms_2 rfl (by decide) dX5_becomesTrue_8 ?_
  refine rb_iconst (v := 1) X (pc := 9) dX5_becomesTrue_9 (by decide) ?_
  refine rb_iload_n X (pc := 10) dX5_becomesTrue_10 rfl rfl ?_
  refine rb_ishl X (pc := 11) dX5_becomesTrue_11 ?_
  refine rb_ior X (pc := 12) dX5_becomesTrue_12 ?_
  refine rc_iast X (pc := 13) 2 rb_ar9_0 ms_u2 rfl (by decide) dX5_becomesTrue_13 ?_
  refine rb_iconst (v := 0) X (pc := 14) dX5_becomesTrue_14 (by decide) ?_
  refine rb_istore_n X (pc := 15) dX5_becomesTrue_15 rfl (by decide) rfl rfl ?_
  exact sp_go rfl rfl (lpX5_becomesTrue_16 (T := (u2 T 11 0 (T 11 0 ||| ((1 : Int32) <<< (e &&& 31))))) hn hn10 X (by rw [bt_e, btn_e]; exact Y) (sp_n T + 1) 0 (by omega) (by rw [sp_n_u2 (by decide)]; omega))
set_option maxRecDepth 100000 in
set_option maxHeartbeats 1000000 in
theorem lpX5_isImproved_33 {Z : rb_Z} {G : rb_G} {h : rb_H} {T : rb_T} (hn : T 4 0 = nI (sp_n T)) (hn10 : sp_n T ≤ 10) {r p : Nat} {v : Int32} (hr : r < 10) (hp1 : p < 8) (hp : T 9 r = nI p) (X : rb_CX Z G cX5_isImproved 6 RX5 5) (Y : rb_RT Z G none (rb_F none (ms h (sp_imp T r v)))) : ∀ fu : Nat, ∀ b : Nat, b ≤ 7 → 8 ≤ b + fu → (∀ c, c < b → decide (sp_tk (sp_imp1 T r v) (sp_nx (sp_imp1 T r v) r (c + 1)) (sp_nR (sp_imp1 T r v) r)) = false) → rb_WP Z G 6 33 [.ref (rb_ad G 9 0), .int (nI r), .int v, .int (nI p), .int (nI (b + 1)), .null] [] (ms h (sp_imp1 T r v)) := by
  intro fu
  induction fu with
  | zero => intro b hb hf hno; omega
  | succ fu ih =>
    intro b hb hf hno
    refine rb_iload X (pc := 33) dX5_isImproved_33 rfl ?_
    refine rb_bipush (v := 8) X (pc := 35) dX5_isImproved_35 (by decide) ?_
    refine rb_icmp_ge X (pc := 37) (tgt := 78) dX5_isImproved_37 (by decide) (fun c37 => ?_) (fun c37 => ?_)
    · have hb2 := (sp_geI (n := 8) rfl (by omega) (by omega)).mp c37
      obtain rfl : b = 7 := by omega
      refine rb_vret (S := []) X (pc := 78) Y dX5_isImproved_78 ?_
      have hf1 : sp_impF (sp_imp1 T r v) r = 7 := fa_first_none hno
      exact ⟨rfl, by unfold sp_imp; rw [hf1, if_neg (by omega)]⟩
    · have hb2 : b + 1 < 8 := Nat.lt_of_not_le (fun z => c37 ((sp_geI (n := 8) rfl (by omega) (by omega)).mpr z))
      have hnx : sp_nx (sp_imp1 T r v) r (b + 1) = (p + (b + 1)) % 8 := by
        unfold sp_nx
        rw [show sp_imp1 T r v 9 r = nI p from hp, nI_clamp (by omega)]
      refine rb_iload_n X (pc := 40) dX5_isImproved_40 rfl rfl ?_
      refine rb_iload X (pc := 41) dX5_isImproved_41 rfl ?_
      refine rb_iadd X (pc := 43) dX5_isImproved_43 ?_
      refine rb_bipush (v := 8) X (pc := 44) dX5_isImproved_44 (by decide) ?_
      refine rb_irem X (pc := 46) dX5_isImproved_46 (by decide) ?_
      rw [sp_mod8 (by omega) (by omega)]
      refine rb_istore X (pc := 47) dX5_isImproved_47 (by decide) rfl rfl ?_
      refine rb_aload_n X (pc := 49) dX5_isImproved_49 rfl rfl ?_
      refine rb_iload X (pc := 50) dX5_isImproved_50 rfl ?_
      refine rb_iload_n X (pc := 52) dX5_isImproved_52 rfl rfl ?_
      refine rc_callVi X (pc := 53) cvX5_isTaken mX5_128 rb_ob9 (qX5_isTaken (T := sp_imp1 T r v) (q := (p + (b + 1)) % 8) hn hn10 (Nat.mod_lt _ (by decide)) hr) (by decide) rfl rfl (Nat.le_of_ble_eq_true rfl) dX5_isImproved_53 ?_
      refine rb_if_eq X (pc := 56) (tgt := 72) dX5_isImproved_56 (by decide) (fun c56 => ?_) (fun c56 => ?_)
      · (try simp only [sp_b0, Classical.not_not] at c56)
        refine rb_iinc X (pc := 72) dX5_isImproved_72 rfl (sp_inc _) (by decide) rfl rfl ?_
        refine rb_goto X (pc := 75) (tgt := 33) dX5_isImproved_75 (by decide) ?_
        refine sp_drop 5 ?_
        exact ih (b + 1) (by omega) (by omega) (fun c hc => by
          by_cases e : c = b
          · subst e; rw [hnx]; exact decide_eq_false c56
          · exact hno c (by omega))
      · (try simp only [sp_b0, Classical.not_not] at c56)
        refine rb_aload_n X (pc := 59) dX5_isImproved_59 rfl rfl ?_
        refine rc_getR X (pc := 60) fX5_7 rb_ob9 rfl dX5_isImproved_60 ?_
        refine rb_iload_n X (pc := 63) dX5_isImproved_63 rfl rfl ?_
        refine rb_iconst (v := 4) X (pc := 64) dX5_isImproved_64 (by decide) ?_
        refine rc_callSi X (pc := 65) cvX5_spotOf mX5_56 (qX5_spotOf (w := 4)) (by decide) rfl rfl (Nat.le_of_ble_eq_true rfl) dX5_isImproved_65 ?_
        refine rb_iload X (pc := 68) dX5_isImproved_68 rfl ?_
        refine rc_iast X (pc := 70) _ rb_ar9_0 (ms_r4 (by omega)) rfl (by omega) dX5_isImproved_70 ?_
        refine rb_vret (S := []) X (pc := 71) Y dX5_isImproved_71 ?_
        have hf1 : sp_impF (sp_imp1 T r v) r = b := fa_first_eq (by omega) (by rw [hnx]; exact decide_eq_true c56) hno
        exact ⟨rfl, by unfold sp_imp; rw [hf1, if_pos (by omega), hnx]⟩
set_option maxRecDepth 100000 in
set_option maxHeartbeats 1000000 in
theorem qX5_isImproved {G : rb_G} {h : rb_H} {T : rb_T} (hn : T 4 0 = nI (sp_n T)) (hn10 : sp_n T ≤ 10) {r p : Nat} {v : Int32} (hr : r < 10) (hp1 : p < 8) (hp : T 9 r = nI p) : rb_M G 5 yX5_isImproved cX5_isImproved 6 none [.ref (rb_ad G 9 0), .int (nI r), .int v] (ms h T) (rb_F none (ms h (sp_imp T r v))) := by
  refine rb_meth (L := [.ref (rb_ad G 9 0), .int (nI r), .int v, .null, .null, .null]) (by decide) (Nat.le_of_ble_eq_true rfl) rfl (fun Z X Y => ?_)
  have X : rb_CX Z G cX5_isImproved 6 RX5 5 := X
  refine rb_aload_n X (pc := 0) dX5_isImproved_0 rfl rfl ?_
  refine rc_getR X (pc := 1) fX5_7 rb_ob9 rfl dX5_isImproved_1 ?_
  refine rb_iload_n X (pc := 4) dX5_isImproved_4 rfl rfl ?_
  refine rb_iconst (v := 2) X (pc := 5) dX5_isImproved_5 (by decide) ?_
  refine rc_callSi X (pc := 6) cvX5_spotOf mX5_56 (qX5_spotOf (w := 2)) (by decide) rfl rfl (Nat.le_of_ble_eq_true rfl) dX5_isImproved_6 ?_
  refine rb_aload_n X (pc := 9) dX5_isImproved_9 rfl rfl ?_
  refine rb_iload_n X (pc := 10) dX5_isImproved_10 rfl rfl ?_
  refine rb_iconst (v := 2) X (pc := 11) dX5_isImproved_11 (by decide) ?_
  refine rc_callVi X (pc := 12) cvX5_its mX5_78 rb_ob9 (qI2 (by omega)) (by decide) rfl rfl (Nat.le_of_ble_eq_true rfl) dX5_isImproved_12 ?_
  refine rb_iload_n X (pc := 15) dX5_isImproved_15 rfl rfl ?_
  refine rb_iadd X (pc := 16) dX5_isImproved_16 ?_
  refine rb_bipush (v := 99) X (pc := 17) dX5_isImproved_17 (by decide) ?_
  refine rc_callSi X (pc := 19) cvX5_heldTo mX5_138 (qX5_heldTo _ _) (by decide) rfl rfl (Nat.le_of_ble_eq_true rfl) dX5_isImproved_19 ?_
  refine rc_iast X (pc := 22) _ rb_ar9_0 (ms_r2 (by omega)) rfl (by omega) dX5_isImproved_22 ?_
  refine rb_aload_n X (pc := 23) dX5_isImproved_23 rfl rfl ?_
  refine rb_iload_n X (pc := 24) dX5_isImproved_24 rfl rfl ?_
  refine rb_iconst (v := 4) X (pc := 25) dX5_isImproved_25 (by decide) ?_
  refine rc_callVi X (pc := 26) cvX5_its mX5_78 rb_ob9 (qI4 (by omega)) (by decide) rfl rfl (Nat.le_of_ble_eq_true rfl) dX5_isImproved_26 ?_
  rw [show u2 T 7 r (sp_min (T 7 r + v) 99) 9 r = nI p from hp]
  refine rb_istore_n X (pc := 29) dX5_isImproved_29 rfl (by decide) rfl rfl ?_
  refine rb_iconst (v := 1) X (pc := 30) dX5_isImproved_30 (by decide) ?_
  refine rb_istore X (pc := 31) dX5_isImproved_31 (by decide) rfl rfl ?_
  exact sp_go rfl rfl (lpX5_isImproved_33 hn hn10 hr hp1 hp X Y 8 0 (by omega) (by omega) (fun c hc => absurd hc (by omega)))
set_option maxRecDepth 100000 in
set_option maxHeartbeats 1000000 in
theorem qX5_feeds {G : rb_G} {h : rb_H} {T : rb_T} {r p : Nat} (hr : r < 10) (hp1 : p < 8) (hp : T 9 r = nI p) : rb_M G 3 yX5_feeds cX5_feeds 3 none [.ref (rb_ad G 9 0), .int (nI r)] (ms h T) (rb_F none (ms h (sp_feed T r))) := by
  refine rb_meth (L := [.ref (rb_ad G 9 0), .int (nI r), .null]) (by decide) (Nat.le_of_ble_eq_true rfl) rfl (fun Z X Y => ?_)
  have X : rb_CX Z G cX5_feeds 3 RX5 3 := X
  refine rb_aload_n X (pc := 0) dX5_feeds_0 rfl rfl ?_
  refine rb_iload_n X (pc := 1) dX5_feeds_1 rfl rfl ?_
  refine rb_iconst (v := 4) X (pc := 2) dX5_feeds_2 (by decide) ?_
  refine rc_callVi X (pc := 3) cvX5_its mX5_78 rb_ob9 (qI4 (by omega)) (by decide) rfl rfl (Nat.le_of_ble_eq_true rfl) dX5_feeds_3 ?_
  rw [hp]
  refine rb_iconst (v := 1) X (pc := 6) dX5_feeds_6 (by decide) ?_
  refine rc_callSi X (pc := 7) cvX5_partOf mX5_41 (qX5_partOf (w := 1)) (by decide) rfl rfl (Nat.le_of_ble_eq_true rfl) dX5_feeds_7 ?_
  refine rb_istore_n X (pc := 10) dX5_feeds_10 rfl (by decide) rfl rfl ?_
  refine rb_aload_n X (pc := 11) dX5_feeds_11 rfl rfl ?_
  refine rc_getR X (pc := 12) fX5_7 rb_ob9 rfl dX5_feeds_12 ?_
  refine rb_iload_n X (pc := 15) dX5_feeds_15 rfl rfl ?_
  refine rc_ialdv X (pc := 16) _ rb_ar9_0 (ms_h1 (by omega)) rfl (by omega) dX5_feeds_16 ?_
  refine rb_aload_n X (pc := 17) dX5_feeds_17 rfl rfl ?_
  refine rb_iload_n X (pc := 18) dX5_feeds_18 rfl rfl ?_
  refine rc_callVi X (pc := 19) cvX5_eats mX5_81 rb_ob9 (qX5_eats (by omega)) (by decide) rfl rfl (Nat.le_of_ble_eq_true rfl) dX5_feeds_19 ?_
  refine rb_icmp_ge X (pc := 22) (tgt := 44) dX5_feeds_22 (by decide) (fun c22 => ?_) (fun c22 => ?_)
  · refine rb_aload_n X (pc := 44) dX5_feeds_44 rfl rfl ?_
    refine rc_getR X (pc := 45) fX5_7 rb_ob9 rfl dX5_feeds_45 ?_
    refine rb_iload_n X (pc := 48) dX5_feeds_48 rfl rfl ?_
    refine rb_dup2 X (pc := 49) dX5_feeds_49 rfl rfl ?_
    refine rc_ialdv X (pc := 50) _ rb_ar9_0 (ms_h1 (by omega)) rfl (by omega) dX5_feeds_50 ?_
    refine rb_aload_n X (pc := 51) dX5_feeds_51 rfl rfl ?_
    refine rb_iload_n X (pc := 52) dX5_feeds_52 rfl rfl ?_
    refine rc_callVi X (pc := 53) cvX5_eats mX5_81 rb_ob9 (qX5_eats (by omega)) (by decide) rfl rfl (Nat.le_of_ble_eq_true rfl) dX5_feeds_53 ?_
    refine rb_isub X (pc := 56) dX5_feeds_56 ?_
    refine rc_iast X (pc := 57) _ rb_ar9_0 (ms_p1 (by omega)) rfl (by omega) dX5_feeds_57 ?_
    refine rb_aload_n X (pc := 58) dX5_feeds_58 rfl rfl ?_
    refine rc_getR X (pc := 59) fX5_7 rb_ob9 rfl dX5_feeds_59 ?_
    refine rb_iload_n X (pc := 62) dX5_feeds_62 rfl rfl ?_
    refine rb_iconst (v := 2) X (pc := 63) dX5_feeds_63 (by decide) ?_
    refine rc_callSi X (pc := 64) cvX5_spotOf mX5_56 (qX5_spotOf (w := 2)) (by decide) rfl rfl (Nat.le_of_ble_eq_true rfl) dX5_feeds_64 ?_
    refine rb_aload_n X (pc := 67) dX5_feeds_67 rfl rfl ?_
    refine rb_iload_n X (pc := 68) dX5_feeds_68 rfl rfl ?_
    refine rb_iconst (v := 2) X (pc := 69) dX5_feeds_69 (by decide) ?_
    refine rc_callVi X (pc := 70) cvX5_its mX5_78 rb_ob9 (qI2 (by omega)) (by decide) rfl rfl (Nat.le_of_ble_eq_true rfl) dX5_feeds_70 ?_
    refine rb_aload_n X (pc := 73) dX5_feeds_73 rfl rfl ?_
    refine rb_iload_n X (pc := 74) dX5_feeds_74 rfl rfl ?_
    refine rc_callVi X (pc := 75) cvX5_grows mX5_112 rb_ob9 (qX5_grows (by omega)) (by decide) rfl rfl (Nat.le_of_ble_eq_true rfl) dX5_feeds_75 ?_
    refine rb_iadd X (pc := 78) dX5_feeds_78 ?_
    refine rb_bipush (v := 99) X (pc := 79) dX5_feeds_79 (by decide) ?_
    refine rc_callSi X (pc := 81) cvX5_heldTo mX5_138 (qX5_heldTo _ _) (by decide) rfl rfl (Nat.le_of_ble_eq_true rfl) dX5_feeds_81 ?_
    refine rc_iast X (pc := 84) _ rb_ar9_0 (ms_r2 (by omega)) rfl (by omega) dX5_feeds_84 ?_
    refine rb_vret (S := []) X (pc := 85) Y dX5_feeds_85 ?_
    exact ⟨rfl, by unfold sp_feed; rw [hp, nI_clamp (by omega), if_neg (Int32.not_lt.mpr c22)]; rfl⟩
  · refine rb_aload_n X (pc := 25) dX5_feeds_25 rfl rfl ?_
    refine rc_getR X (pc := 26) fX5_7 rb_ob9 rfl dX5_feeds_26 ?_
    refine rb_iload_n X (pc := 29) dX5_feeds_29 rfl rfl ?_
    refine rb_iconst (v := 0) X (pc := 30) dX5_feeds_30 (by decide) ?_
    refine rc_iast X (pc := 31) _ rb_ar9_0 (ms_p1 (by omega)) rfl (by omega) dX5_feeds_31 ?_
    refine rb_aload_n X (pc := 32) dX5_feeds_32 rfl rfl ?_
    refine rc_getR X (pc := 33) fX5_7 rb_ob9 rfl dX5_feeds_33 ?_
    refine rb_iload_n X (pc := 36) dX5_feeds_36 rfl rfl ?_
    refine rb_iconst (v := 4) X (pc := 37) dX5_feeds_37 (by decide) ?_
    refine rc_callSi X (pc := 38) cvX5_spotOf mX5_56 (qX5_spotOf (w := 4)) (by decide) rfl rfl (Nat.le_of_ble_eq_true rfl) dX5_feeds_38 ?_
    refine rb_iconst (v := (-1)) X (pc := 41) dX5_feeds_41 (by decide) ?_
    refine rc_iast X (pc := 42) _ rb_ar9_0 (ms_r4 (by omega)) rfl (by omega) dX5_feeds_42 ?_
    refine rb_vret (S := []) X (pc := 43) Y dX5_feeds_43 ?_
    exact ⟨rfl, by unfold sp_feed; rw [hp, nI_clamp (by omega), if_pos (Int32.not_le.mp c22)]⟩
theorem sp_add_b {T : rb_T} {k e b b' : Int32} : u2 (sp_add T k e b) 7 (sp_n T) b' = sp_add T k e b' := by
  unfold sp_add
  rw [u2_cm (j := 4) (by decide), u2_cm (j := 9) (by decide), u2_cm (j := 8) (by decide), u2_u2]
theorem lo_bt {T : rb_T} {q e i n : Nat} (hi : i < n) (hn : n ≤ 10) : bt (sp_lo T (nI q) (nI e) n) i = true ↔ (T 9 i = nI q ∧ T 6 i = nI e) := by
  unfold sp_lo
  rw [mk_bt (by omega) n (by omega)]
  simp [hi]
set_option maxRecDepth 100000 in
set_option maxHeartbeats 1000000 in
theorem lpX5_makesThird_69 {Z : rb_Z} {G : rb_G} {h : rb_H} {T : rb_T} (hok : sp_ok T) {q e : Nat} (hpe : sp_pair T q = e) (he : ¬ e = 16) (hnf : sp_n T < 10) (hor : ¬ sp_onr T (nI e) (sp_n T) = true) (X : rb_CX Z G cX5_makesThird 7 RX5 3) (Y : rb_RT Z G none (rb_F none (ms h (sp_thd T q)))) : ∀ fu : Nat, ∀ i : Nat, i ≤ sp_n T → sp_n T + 1 ≤ i + fu → rb_WP Z G 7 69 [.ref (rb_ad G 9 0), .int (nI q), .int (nI e), .int (sp_lo T (nI q) (nI e) (sp_n T)), .int (sp_two T q (nI e) i).1, .int (nI (sp_two T q (nI e) i).2), .int (nI i)] [] (ms h T) := by
  intro fu
  induction fu with
  | zero => intro i hi hf; omega
  | succ fu ih =>
    intro i hi hf
    obtain ⟨ht2, s, -, -⟩ := sp_two_ok hok (q := q) (e := nI e) i (by omega)
    refine rb_iload X (pc := 69) dX5_makesThird_69 rfl ?_
    refine rb_aload_n X (pc := 71) dX5_makesThird_71 rfl rfl ?_
    refine rc_getR X (pc := 72) fX5_7 rb_ob9 rfl dX5_makesThird_72 ?_
    refine rb_iconst (v := 0) X (pc := 75) dX5_makesThird_75 (by decide) ?_
    refine rc_ialdv X (pc := 76) 0 rb_ar9_0 ms_0 rfl (by decide) dX5_makesThird_76 ?_
    refine rb_icmp_ge X (pc := 77) (tgt := 117) dX5_makesThird_77 (by decide) (fun c77 => ?_) (fun c77 => ?_)
    · have hi2 := (sp_geI hok.1 (by omega) (by omega)).mp c77
      obtain rfl : i = sp_n T := by omega
      have htw : sp_two T q (nI e) (sp_n T) = sp_two T q (nI e) (sp_n T) := rfl
      refine rb_aload_n X (pc := 117) dX5_makesThird_117 rfl rfl ?_
      refine rb_iconst (v := 0) X (pc := 118) dX5_makesThird_118 (by decide) ?_
      refine rb_iload_n X (pc := 119) dX5_makesThird_119 rfl rfl ?_
      refine rc_callVi X (pc := 120) cvX5_adds mX5_103 rb_ob9 (qX5_adds hok.1 hok.2.1 hnf _ _) (by decide) rfl rfl (Nat.le_of_ble_eq_true rfl) dX5_makesThird_120 ?_
      refine rb_istore X (pc := 123) dX5_makesThird_123 (by decide) rfl rfl ?_
      refine rb_aload_n X (pc := 125) dX5_makesThird_125 rfl rfl ?_
      refine rc_getR X (pc := 126) fX5_7 rb_ob9 rfl dX5_makesThird_126 ?_
      refine rb_iload X (pc := 129) dX5_makesThird_129 rfl ?_
      refine rb_iconst (v := 2) X (pc := 131) dX5_makesThird_131 (by decide) ?_
      refine rc_callSi X (pc := 132) cvX5_spotOf mX5_56 (qX5_spotOf (w := 2)) (by decide) rfl rfl (Nat.le_of_ble_eq_true rfl) dX5_makesThird_132 ?_
      refine rb_iload X (pc := 135) dX5_makesThird_135 rfl ?_
      refine rb_iconst (v := 2) X (pc := 137) dX5_makesThird_137 (by decide) ?_
      refine rb_idiv X (pc := 138) dX5_makesThird_138 (by decide) ?_
      refine rc_iast X (pc := 139) _ rb_ar9_0 (ms_r2 (by omega)) rfl (by omega) dX5_makesThird_139 ?_
      refine rb_vret (S := []) X (pc := 140) Y dX5_makesThird_140 ?_
      exact ⟨rfl, by unfold sp_thd; rw [hpe, if_neg (fun z => z.elim he (fun z => z.elim (fun w => absurd w (by omega)) hor)), htw, sp_add_b]⟩
    · have hi2 : i < sp_n T := Nat.lt_of_not_le (fun z => c77 ((sp_geI hok.1 (by omega) (by omega)).mpr z))
      refine rb_iload X (pc := 80) dX5_makesThird_80 rfl ?_
      refine rb_iconst (v := 2) X (pc := 82) dX5_makesThird_82 (by decide) ?_
      refine rb_icmp_ge X (pc := 83) (tgt := 117) dX5_makesThird_83 (by decide) (fun c83 => ?_) (fun c83 => ?_)
      · have h22 := (sp_geI (n := 2) rfl (by omega) (by omega)).mp c83
        have htw : sp_two T q (nI e) (sp_n T) = sp_two T q (nI e) i := by
          have z := sp_two_stop (T := T) (q := q) (e := nI e) (i := i) (by omega) (sp_n T - i)
          rwa [show i + (sp_n T - i) = sp_n T by omega] at z
        refine rb_aload_n X (pc := 117) dX5_makesThird_117 rfl rfl ?_
        refine rb_iconst (v := 0) X (pc := 118) dX5_makesThird_118 (by decide) ?_
        refine rb_iload_n X (pc := 119) dX5_makesThird_119 rfl rfl ?_
        refine rc_callVi X (pc := 120) cvX5_adds mX5_103 rb_ob9 (qX5_adds hok.1 hok.2.1 hnf _ _) (by decide) rfl rfl (Nat.le_of_ble_eq_true rfl) dX5_makesThird_120 ?_
        refine rb_istore X (pc := 123) dX5_makesThird_123 (by decide) rfl rfl ?_
        refine rb_aload_n X (pc := 125) dX5_makesThird_125 rfl rfl ?_
        refine rc_getR X (pc := 126) fX5_7 rb_ob9 rfl dX5_makesThird_126 ?_
        refine rb_iload X (pc := 129) dX5_makesThird_129 rfl ?_
        refine rb_iconst (v := 2) X (pc := 131) dX5_makesThird_131 (by decide) ?_
        refine rc_callSi X (pc := 132) cvX5_spotOf mX5_56 (qX5_spotOf (w := 2)) (by decide) rfl rfl (Nat.le_of_ble_eq_true rfl) dX5_makesThird_132 ?_
        refine rb_iload X (pc := 135) dX5_makesThird_135 rfl ?_
        refine rb_iconst (v := 2) X (pc := 137) dX5_makesThird_137 (by decide) ?_
        refine rb_idiv X (pc := 138) dX5_makesThird_138 (by decide) ?_
        refine rc_iast X (pc := 139) _ rb_ar9_0 (ms_r2 (by omega)) rfl (by omega) dX5_makesThird_139 ?_
        refine rb_vret (S := []) X (pc := 140) Y dX5_makesThird_140 ?_
        exact ⟨rfl, by unfold sp_thd; rw [hpe, if_neg (fun z => z.elim he (fun z => z.elim (fun w => absurd w (by omega)) hor)), htw, sp_add_b]⟩
      · have h22 : (sp_two T q (nI e) i).2 < 2 := Nat.lt_of_not_le (fun z => c83 ((sp_geI (n := 2) rfl (by omega) (by omega)).mpr z))
        refine rb_iload_n X (pc := 86) dX5_makesThird_86 rfl rfl ?_
        refine rb_iload X (pc := 87) dX5_makesThird_87 rfl ?_
        refine rb_ishr X (pc := 89) dX5_makesThird_89 ?_
        refine rb_iconst (v := 1) X (pc := 90) dX5_makesThird_90 (by decide) ?_
        refine rb_iand X (pc := 91) dX5_makesThird_91 ?_
        refine rb_iconst (v := 1) X (pc := 92) dX5_makesThird_92 (by decide) ?_
        refine rb_icmp_ne X (pc := 93) (tgt := 111) dX5_makesThird_93 (by decide) (fun c93 => ?_) (fun c93 => ?_)
        · have hb : ¬ (T 9 i = nI q ∧ T 6 i = nI e) := fun z => c93 ((sp_shr1 (by omega)).mpr ((lo_bt hi2 (by omega)).mpr z))
          refine rb_iinc X (pc := 111) dX5_makesThird_111 rfl (sp_inc _) (by decide) rfl rfl ?_
          refine rb_goto X (pc := 114) (tgt := 69) dX5_makesThird_114 (by decide) ?_
          refine sp_go ?_ rfl (ih (i + 1) (by omega) (by omega))
          first
          | (rw [sp_two_s, if_pos ⟨h22, hb⟩]; rfl)
          | (rw [sp_two_s, if_neg (fun z => hb z.2)]; rfl)
        · have c93 : ((sp_lo T (nI q) (nI e) (sp_n T)) >>> (nI i &&& 31)) &&& 1 = 1 := by simpa using c93
          have hb : T 9 i = nI q ∧ T 6 i = nI e := (lo_bt hi2 (by omega)).mp ((sp_shr1 (by omega)).mp c93)
          refine rb_iload X (pc := 96) dX5_makesThird_96 rfl ?_
          refine rb_aload_n X (pc := 98) dX5_makesThird_98 rfl rfl ?_
          refine rb_iload X (pc := 99) dX5_makesThird_99 rfl ?_
          refine rb_iconst (v := 2) X (pc := 101) dX5_makesThird_101 (by decide) ?_
          refine rc_callVi X (pc := 102) cvX5_its mX5_78 rb_ob9 (qI2 (by omega)) (by decide) rfl rfl (Nat.le_of_ble_eq_true rfl) dX5_makesThird_102 ?_
          refine rb_iadd X (pc := 105) dX5_makesThird_105 ?_
          refine rb_istore X (pc := 106) dX5_makesThird_106 (by decide) rfl rfl ?_
          refine rb_iinc X (pc := 108) dX5_makesThird_108 rfl (sp_inc _) (by decide) rfl rfl ?_
          refine rb_iinc X (pc := 111) dX5_makesThird_111 rfl (sp_inc _) (by decide) rfl rfl ?_
          refine rb_goto X (pc := 114) (tgt := 69) dX5_makesThird_114 (by decide) ?_
          refine sp_go ?_ rfl (ih (i + 1) (by omega) (by omega))
          first
          | (rw [sp_two_s, if_pos ⟨h22, hb⟩]; rfl)
          | (rw [sp_two_s, if_neg (fun z => hb z.2)]; rfl)
set_option maxRecDepth 100000 in
set_option maxHeartbeats 1000000 in
theorem lpX5_makesThird_2 {Z : rb_Z} {G : rb_G} {h : rb_H} {T : rb_T} (hok : sp_ok T) {q : Nat} (X : rb_CX Z G cX5_makesThird 7 RX5 3) (Y : rb_RT Z G none (rb_F none (ms h (sp_thd T q)))) : ∀ fu : Nat, ∀ e : Nat, e ≤ 16 → 17 ≤ e + fu → (∀ c, c < e → decide (2 ≤ sp_pc T q c (sp_n T)) = false) → rb_WP Z G 7 2 [.ref (rb_ad G 9 0), .int (nI q), .int (nI e), .null, .null, .null, .null] [] (ms h T) := by
  intro fu
  induction fu with
  | zero => intro e he hf hno; omega
  | succ fu ih =>
    intro e he hf hno
    have hn := hok.1
    have hn10 := hok.2.1
    have hpl : sp_pc T q e (sp_n T) ≤ sp_n T := fb_ct_le _ _
    refine rb_iload_n X (pc := 2) dX5_makesThird_2 rfl rfl ?_
    refine rb_bipush (v := 16) X (pc := 3) dX5_makesThird_3 (by decide) ?_
    refine rb_icmp_ge X (pc := 5) (tgt := 27) dX5_makesThird_5 (by decide) (fun c5 => ?_) (fun c5 => ?_)
    · have he2 := (sp_geI (n := 16) rfl (by omega) (by omega)).mp c5
      have e16 : e = 16 := by omega
      have hpe : sp_pair T q = e := by rw [e16] at hno ⊢; exact fa_first_none hno
      refine rb_iload_n X (pc := 27) dX5_makesThird_27 rfl rfl ?_
      refine rb_bipush (v := 16) X (pc := 28) dX5_makesThird_28 (by decide) ?_
      refine rb_icmp_eq X (pc := 30) (tgt := 52) dX5_makesThird_30 (by decide) (fun c30 => ?_) (fun c30 => ?_)
      · have h16 : e = 16 := (nI_eq (b := 16) (by omega) (by omega)).mp c30
        have eR : sp_thd T q = T := by unfold sp_thd; rw [if_pos (Or.inl (hpe.trans h16))]
        refine rb_vret (S := []) X (pc := 52) Y dX5_makesThird_52 ?_
        exact ⟨rfl, by rw [eR]⟩
      · have h16 : ¬ e = 16 := fun z => c30 (by rw [z]; rfl)
        refine rb_aload_n X (pc := 33) dX5_makesThird_33 rfl rfl ?_
        refine rb_iload_n X (pc := 34) dX5_makesThird_34 rfl rfl ?_
        refine rc_callVi X (pc := 35) cvX5_isOnRoad mX5_153 rb_ob9 (qX5_isOnRoad hn hn10 _) (by decide) rfl rfl (Nat.le_of_ble_eq_true rfl) dX5_makesThird_35 ?_
        refine rb_if_ne X (pc := 38) (tgt := 52) dX5_makesThird_38 (by decide) (fun c38 => ?_) (fun c38 => ?_)
        · (try simp only [sp_b0, Classical.not_not] at c38)
          have eR : sp_thd T q = T := by unfold sp_thd; rw [hpe, if_pos (Or.inr (Or.inr c38))]
          refine rb_vret (S := []) X (pc := 52) Y dX5_makesThird_52 ?_
          exact ⟨rfl, by rw [eR]⟩
        · (try simp only [sp_b0, Classical.not_not] at c38)
          refine rb_aload_n X (pc := 41) dX5_makesThird_41 rfl rfl ?_
          refine rc_getR X (pc := 42) fX5_7 rb_ob9 rfl dX5_makesThird_42 ?_
          refine rb_iconst (v := 0) X (pc := 45) dX5_makesThird_45 (by decide) ?_
          refine rc_ialdv X (pc := 46) 0 rb_ar9_0 ms_0 rfl (by decide) dX5_makesThird_46 ?_
          refine rb_bipush (v := 10) X (pc := 47) dX5_makesThird_47 (by decide) ?_
          refine rb_icmp_ne X (pc := 49) (tgt := 53) dX5_makesThird_49 (by decide) (fun c49 => ?_) (fun c49 => ?_)
          · have hnf : sp_n T < 10 := by
              rcases Nat.lt_or_ge (sp_n T) 10 with z | z
              · exact z
              · exact absurd (by rw [hn, show sp_n T = 10 by omega]; rfl) c49
            refine rb_aload_n X (pc := 53) dX5_makesThird_53 rfl rfl ?_
            refine rb_iload_n X (pc := 54) dX5_makesThird_54 rfl rfl ?_
            refine rb_iload_n X (pc := 55) dX5_makesThird_55 rfl rfl ?_
            refine rc_callVi X (pc := 56) cvX5_lodgersOf mX5_150 rb_ob9 (qX5_lodgersOf hn hn10 _ _) (by decide) rfl rfl (Nat.le_of_ble_eq_true rfl) dX5_makesThird_56 ?_
            refine rb_istore_n X (pc := 59) dX5_makesThird_59 rfl (by decide) rfl rfl ?_
            refine rb_iconst (v := 0) X (pc := 60) dX5_makesThird_60 (by decide) ?_
            refine rb_istore X (pc := 61) dX5_makesThird_61 (by decide) rfl rfl ?_
            refine rb_iconst (v := 0) X (pc := 63) dX5_makesThird_63 (by decide) ?_
            refine rb_istore X (pc := 64) dX5_makesThird_64 (by decide) rfl rfl ?_
            refine rb_iconst (v := 0) X (pc := 66) dX5_makesThird_66 (by decide) ?_
            refine rb_istore X (pc := 67) dX5_makesThird_67 (by decide) rfl rfl ?_
            exact sp_go rfl rfl (lpX5_makesThird_69 hok hpe h16 hnf c38 X Y (sp_n T + 1) 0 (by omega) (by omega))
          · have c49 : T 4 0 = 10 := by simpa using c49
            have h10 : sp_n T = 10 := (nI_eq (b := 10) (by omega) (by omega)).mp (hn.symm.trans c49)
            have eR : sp_thd T q = T := by unfold sp_thd; rw [if_pos (Or.inr (Or.inl h10))]
            refine rb_vret (S := []) X (pc := 52) Y dX5_makesThird_52 ?_
            exact ⟨rfl, by rw [eR]⟩
    · have he2 : e < 16 := Nat.lt_of_not_le (fun z => c5 ((sp_geI (n := 16) rfl (by omega) (by omega)).mpr z))
      refine rb_aload_n X (pc := 8) dX5_makesThird_8 rfl rfl ?_
      refine rb_iload_n X (pc := 9) dX5_makesThird_9 rfl rfl ?_
      refine rb_iload_n X (pc := 10) dX5_makesThird_10 rfl rfl ?_
      refine rc_callVi X (pc := 11) cvX5_lodgersOf mX5_150 rb_ob9 (qX5_lodgersOf hn hn10 _ _) (by decide) rfl rfl (Nat.le_of_ble_eq_true rfl) dX5_makesThird_11 ?_
      refine rc_callSi X (pc := 14) cvX5_ones mX5_122 (qOl hn10) (by decide) rfl rfl (Nat.le_of_ble_eq_true rfl) dX5_makesThird_14 ?_
      refine rb_iconst (v := 2) X (pc := 17) dX5_makesThird_17 (by decide) ?_
      refine rb_icmp_ge X (pc := 18) (tgt := 27) dX5_makesThird_18 (by decide) (fun c18 => ?_) (fun c18 => ?_)
      · have h2 := (nI_leI (a := 2) (by omega) (by omega)).mp c18
        have hpe : sp_pair T q = e := fa_first_eq he2 (decide_eq_true h2) hno
        refine rb_iload_n X (pc := 27) dX5_makesThird_27 rfl rfl ?_
        refine rb_bipush (v := 16) X (pc := 28) dX5_makesThird_28 (by decide) ?_
        refine rb_icmp_eq X (pc := 30) (tgt := 52) dX5_makesThird_30 (by decide) (fun c30 => ?_) (fun c30 => ?_)
        · have h16 : e = 16 := (nI_eq (b := 16) (by omega) (by omega)).mp c30
          have eR : sp_thd T q = T := by unfold sp_thd; rw [if_pos (Or.inl (hpe.trans h16))]
          refine rb_vret (S := []) X (pc := 52) Y dX5_makesThird_52 ?_
          exact ⟨rfl, by rw [eR]⟩
        · have h16 : ¬ e = 16 := fun z => c30 (by rw [z]; rfl)
          refine rb_aload_n X (pc := 33) dX5_makesThird_33 rfl rfl ?_
          refine rb_iload_n X (pc := 34) dX5_makesThird_34 rfl rfl ?_
          refine rc_callVi X (pc := 35) cvX5_isOnRoad mX5_153 rb_ob9 (qX5_isOnRoad hn hn10 _) (by decide) rfl rfl (Nat.le_of_ble_eq_true rfl) dX5_makesThird_35 ?_
          refine rb_if_ne X (pc := 38) (tgt := 52) dX5_makesThird_38 (by decide) (fun c38 => ?_) (fun c38 => ?_)
          · (try simp only [sp_b0, Classical.not_not] at c38)
            have eR : sp_thd T q = T := by unfold sp_thd; rw [hpe, if_pos (Or.inr (Or.inr c38))]
            refine rb_vret (S := []) X (pc := 52) Y dX5_makesThird_52 ?_
            exact ⟨rfl, by rw [eR]⟩
          · (try simp only [sp_b0, Classical.not_not] at c38)
            refine rb_aload_n X (pc := 41) dX5_makesThird_41 rfl rfl ?_
            refine rc_getR X (pc := 42) fX5_7 rb_ob9 rfl dX5_makesThird_42 ?_
            refine rb_iconst (v := 0) X (pc := 45) dX5_makesThird_45 (by decide) ?_
            refine rc_ialdv X (pc := 46) 0 rb_ar9_0 ms_0 rfl (by decide) dX5_makesThird_46 ?_
            refine rb_bipush (v := 10) X (pc := 47) dX5_makesThird_47 (by decide) ?_
            refine rb_icmp_ne X (pc := 49) (tgt := 53) dX5_makesThird_49 (by decide) (fun c49 => ?_) (fun c49 => ?_)
            · have hnf : sp_n T < 10 := by
                rcases Nat.lt_or_ge (sp_n T) 10 with z | z
                · exact z
                · exact absurd (by rw [hn, show sp_n T = 10 by omega]; rfl) c49
              refine rb_aload_n X (pc := 53) dX5_makesThird_53 rfl rfl ?_
              refine rb_iload_n X (pc := 54) dX5_makesThird_54 rfl rfl ?_
              refine rb_iload_n X (pc := 55) dX5_makesThird_55 rfl rfl ?_
              refine rc_callVi X (pc := 56) cvX5_lodgersOf mX5_150 rb_ob9 (qX5_lodgersOf hn hn10 _ _) (by decide) rfl rfl (Nat.le_of_ble_eq_true rfl) dX5_makesThird_56 ?_
              refine rb_istore_n X (pc := 59) dX5_makesThird_59 rfl (by decide) rfl rfl ?_
              refine rb_iconst (v := 0) X (pc := 60) dX5_makesThird_60 (by decide) ?_
              refine rb_istore X (pc := 61) dX5_makesThird_61 (by decide) rfl rfl ?_
              refine rb_iconst (v := 0) X (pc := 63) dX5_makesThird_63 (by decide) ?_
              refine rb_istore X (pc := 64) dX5_makesThird_64 (by decide) rfl rfl ?_
              refine rb_iconst (v := 0) X (pc := 66) dX5_makesThird_66 (by decide) ?_
              refine rb_istore X (pc := 67) dX5_makesThird_67 (by decide) rfl rfl ?_
              exact sp_go rfl rfl (lpX5_makesThird_69 hok hpe h16 hnf c38 X Y (sp_n T + 1) 0 (by omega) (by omega))
            · have c49 : T 4 0 = 10 := by simpa using c49
              have h10 : sp_n T = 10 := (nI_eq (b := 10) (by omega) (by omega)).mp (hn.symm.trans c49)
              have eR : sp_thd T q = T := by unfold sp_thd; rw [if_pos (Or.inr (Or.inl h10))]
              refine rb_vret (S := []) X (pc := 52) Y dX5_makesThird_52 ?_
              exact ⟨rfl, by rw [eR]⟩
      · have h2 : ¬ 2 ≤ sp_pc T q e (sp_n T) := fun z => c18 ((nI_leI (a := 2) (by omega) (by omega)).mpr z)
        refine rb_iinc X (pc := 21) dX5_makesThird_21 rfl (sp_inc _) (by decide) rfl rfl ?_
        refine rb_goto X (pc := 24) (tgt := 2) dX5_makesThird_24 (by decide) ?_
        exact ih (e + 1) (by omega) (by omega) (fun c hc => by
          by_cases ee : c = e
          · subst ee; exact decide_eq_false h2
          · exact hno c (by omega))
set_option maxRecDepth 100000 in
set_option maxHeartbeats 1000000 in
theorem qX5_makesThird {G : rb_G} {h : rb_H} {T : rb_T} (hok : sp_ok T) {q : Nat} : rb_M G 3 yX5_makesThird cX5_makesThird 7 none [.ref (rb_ad G 9 0), .int (nI q)] (ms h T) (rb_F none (ms h (sp_thd T q))) := by
  refine rb_meth (L := [.ref (rb_ad G 9 0), .int (nI q), .null, .null, .null, .null, .null]) (by decide) (Nat.le_of_ble_eq_true rfl) rfl (fun Z X Y => ?_)
  have X : rb_CX Z G cX5_makesThird 7 RX5 3 := X
  refine rb_iconst (v := 0) X (pc := 0) dX5_makesThird_0 (by decide) ?_
  refine rb_istore_n X (pc := 1) dX5_makesThird_1 rfl (by decide) rfl rfl ?_
  exact sp_go rfl rfl (lpX5_makesThird_2 hok X Y 17 0 (by omega) (by omega) (fun c hc => absurd hc (by omega)))
