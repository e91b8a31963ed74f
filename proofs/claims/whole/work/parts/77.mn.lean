set_option maxRecDepth 100000 in
set_option maxHeartbeats 1000000 in
theorem qHi_F {G : rb_G} {g : rb_H} {M T : rb_T} {n : Nat} (hn : n ≤ 120) (hM7 : M 7 0 = nI n) {a : Nat} {v : Int32} (ha : a ≤ n) (hok : sp_ok T) (hT : ¬ tM (M 6) n (tN (M 6) n a) 7 = true) : rb_M G 6 yX5_houseItem cX5_houseItem 2 none [.ref (rb_ad G 9 0)] (mh g M n a v 0 T) (fun r h2 => r = none ∧ ∃ v2, h2 = HS g M n (p_house (M 6) n (tN (M 6) n a) T) v2) := by
  refine rb_meth (L := [.ref (rb_ad G 9 0), .null]) (by decide) (Nat.le_of_ble_eq_true rfl) rfl (fun Z X Y => ?_)
  have X : rb_CX Z G cX5_houseItem 2 RX5 6 := X
  have hN1 := tN_le (f := M 6) ha
  have hN2 := tN_le (f := M 6) hN1.2
  refine rb_aload_n X (pc := 0) dX5_houseItem_0 rfl rfl ?_
  refine rb_iconst (v := 1) X (pc := 1) dX5_houseItem_1 (by decide) ?_
  refine rc_callVv X (pc := 2) cvX5_must mX5_249 rb_ob9 (qMt hn hM7 ha) (by decide) rfl rfl (Nat.le_of_ble_eq_true rfl) dX5_houseItem_2 ?_
  refine rb_aload_n X (pc := 5) dX5_houseItem_5 rfl rfl ?_
  refine rb_iconst (v := 0) X (pc := 6) dX5_houseItem_6 (by decide) ?_
  refine rb_bipush (v := 7) X (pc := 7) dX5_houseItem_7 (by decide) ?_
  refine rc_callVv X (pc := 9) cvX5_number mX5_269 rb_ob9 (qNmF (m := 7) hn hM7 hN1.2 (by decide) hT) (by decide) rfl rfl (Nat.le_of_ble_eq_true rfl) dX5_houseItem_9 ?_
  refine rb_aload_n X (pc := 12) dX5_houseItem_12 rfl rfl ?_
  refine rc_getI X (pc := 13) fX5_235 rb_ob9 rfl gp_11 dX5_houseItem_13 ?_
  refine rb_if_eq X (pc := 16) (tgt := 23) dX5_houseItem_16 (by decide) (fun c16 => absurd c16 (by decide)) (fun c16 => ?_)
  refine rb_iconst (v := 0) X (pc := 19) dX5_houseItem_19 (by decide) ?_
  refine rb_goto X (pc := 20) (tgt := 27) dX5_houseItem_20 (by decide) ?_
  refine rb_istore_n X (pc := 27) dX5_houseItem_27 rfl (by decide) rfl rfl ?_
  refine rb_aload_n X (pc := 28) dX5_houseItem_28 rfl rfl ?_
  refine rb_ldc2 X (pc := 29) dX5_houseItem_29 kX5_285 ?_
  refine rb_iload_n X (pc := 32) dX5_houseItem_32 rfl rfl ?_
  refine rb_iconst (v := 0) X (pc := 33) dX5_houseItem_33 (by decide) ?_
  refine rc_callSi X (pc := 34) cvX5_partOf mX5_41 (qX5_partOf (r := 0) (w := 0)) (by decide) rfl rfl (Nat.le_of_ble_eq_true rfl) dX5_houseItem_34 ?_
  refine rb_iconst (v := 3) X (pc := 37) dX5_houseItem_37 (by decide) ?_
  refine rc_callV X (pc := 38) cvX5_partItem mX5_276 rb_ob9 (qPi_1 (i := 8) (j := 0) (q := 0) (k := 3 + 3 * 0 + 0) (m := 3) hn hM7 hN1.2 (fun b => wK_8) (by decide) (by decide) (fun S x => enc_uh (q := 0) (by decide) (by decide)) (by decide)) (by decide) rfl rfl (Nat.le_of_ble_eq_true rfl) dX5_houseItem_38 (fun r_38 h_38 p_38 => ?_)
  obtain ⟨rfl, v1, rfl⟩ := p_38
  refine sp_goS (S' := []) rfl ?_
  refine sp_go (h' := mh g M n (tN (M 6) n a) v1 1 T) rfl rfl ?_
  refine rb_aload_n X (pc := 41) dX5_houseItem_41 rfl rfl ?_
  refine rb_ldc2 X (pc := 42) dX5_houseItem_42 kX5_287 ?_
  refine rb_iload_n X (pc := 45) dX5_houseItem_45 rfl rfl ?_
  refine rb_iconst (v := 1) X (pc := 46) dX5_houseItem_46 (by decide) ?_
  refine rc_callSi X (pc := 47) cvX5_partOf mX5_41 (qX5_partOf (r := 0) (w := 1)) (by decide) rfl rfl (Nat.le_of_ble_eq_true rfl) dX5_houseItem_47 ?_
  refine rb_sipush (v := 999) X (pc := 50) dX5_houseItem_50 (by decide) ?_
  refine rc_callV X (pc := 53) cvX5_partItem mX5_276 rb_ob9 (qPi_1 (i := 9) (j := 1) (q := 0) (k := 3 + 3 * 0 + 1) (m := 999) hn hM7 hN1.2 (fun b => wK_9) (by decide) (by decide) (fun S x => enc_uh (q := 0) (by decide) (by decide)) (by decide)) (by decide) rfl rfl (Nat.le_of_ble_eq_true rfl) dX5_houseItem_53 (fun r_53 h_53 p_53 => ?_)
  obtain ⟨rfl, v2, rfl⟩ := p_53
  refine sp_goS (S' := []) rfl ?_
  refine sp_go (h' := mh g M n (tN (M 6) n a) v2 1 T) rfl rfl ?_
  refine rb_aload_n X (pc := 56) dX5_houseItem_56 rfl rfl ?_
  refine rb_ldc2 X (pc := 57) dX5_houseItem_57 kX5_289 ?_
  refine rb_iload_n X (pc := 60) dX5_houseItem_60 rfl rfl ?_
  refine rb_iconst (v := 2) X (pc := 61) dX5_houseItem_61 (by decide) ?_
  refine rc_callSi X (pc := 62) cvX5_partOf mX5_41 (qX5_partOf (r := 0) (w := 2)) (by decide) rfl rfl (Nat.le_of_ble_eq_true rfl) dX5_houseItem_62 ?_
  refine rb_bipush (v := 9) X (pc := 65) dX5_houseItem_65 (by decide) ?_
  refine rc_callV X (pc := 67) cvX5_partItem mX5_276 rb_ob9 (qPi_1 (i := 10) (j := 2) (q := 0) (k := 3 + 3 * 0 + 2) (m := 9) hn hM7 hN1.2 (fun b => wK_10) (by decide) (by decide) (fun S x => enc_uh (q := 0) (by decide) (by decide)) (by decide)) (by decide) rfl rfl (Nat.le_of_ble_eq_true rfl) dX5_houseItem_67 (fun r_67 h_67 p_67 => ?_)
  obtain ⟨rfl, v3, rfl⟩ := p_67
  refine sp_goS (S' := []) rfl ?_
  refine sp_go (h' := mh g M n (tN (M 6) n a) v3 1 T) rfl rfl ?_
  refine rb_vret (S := []) X (pc := 70) Y dX5_houseItem_70 ?_
  have e : p_house (M 6) n (tN (M 6) n a) T = (false, (tN (M 6) n a), T) := by rw [p_house, if_neg hT]
  exact ⟨rfl, v3, by rw [e]; rfl⟩
theorem p_th_le {n i j q m2 : Nat} {f : Nat → Int32} {m : Int32} {p : p_R} (h : p.2.1 ≤ n) : (p_th p (p_part f n i m j q)).2.1 ≤ n := by
  unfold p_th
  split
  · exact p_part_le h
  · exact h
set_option maxRecDepth 100000 in
set_option maxHeartbeats 1000000 in
theorem qHi_T {G : rb_G} {g : rb_H} {M T : rb_T} {n : Nat} (hn : n ≤ 120) (hM7 : M 7 0 = nI n) {a : Nat} {v : Int32} (ha : a ≤ n) (hok : sp_ok T) (hT : tM (M 6) n (tN (M 6) n a) 7 = true) : rb_M G 6 yX5_houseItem cX5_houseItem 2 none [.ref (rb_ad G 9 0)] (mh g M n a v 0 T) (fun r h2 => r = none ∧ ∃ v2, h2 = HS g M n (p_house (M 6) n (tN (M 6) n a) T) v2) := by
  refine rb_meth (L := [.ref (rb_ad G 9 0), .null]) (by decide) (Nat.le_of_ble_eq_true rfl) rfl (fun Z X Y => ?_)
  have X : rb_CX Z G cX5_houseItem 2 RX5 6 := X
  have hN1 := tN_le (f := M 6) ha
  have hN2 := tN_le (f := M 6) hN1.2
  obtain ⟨vv, hvv, ev⟩ := tM_of (m := 7) (by decide) hT
  have ei : ix (tV (M 6) n (tN (M 6) n a)) = vv := by rw [ev]; exact nI_clamp (by omega)
  have q1 : (p_th (true, (tN (M 6) n (tN (M 6) n a)), T) (p_part (M 6) n 8 (nI 3) 0 vv)).2.1 ≤ n := p_th_le (m2 := 0) hN2.2
  have q2 : (p_th (p_th (true, (tN (M 6) n (tN (M 6) n a)), T) (p_part (M 6) n 8 (nI 3) 0 vv)) (p_part (M 6) n 9 (nI 999) 1 vv)).2.1 ≤ n := p_th_le (m2 := 0) q1
  refine rb_aload_n X (pc := 0) dX5_houseItem_0 rfl rfl ?_
  refine rb_iconst (v := 1) X (pc := 1) dX5_houseItem_1 (by decide) ?_
  refine rc_callVv X (pc := 2) cvX5_must mX5_249 rb_ob9 (qMt hn hM7 ha) (by decide) rfl rfl (Nat.le_of_ble_eq_true rfl) dX5_houseItem_2 ?_
  refine rb_aload_n X (pc := 5) dX5_houseItem_5 rfl rfl ?_
  refine rb_iconst (v := 0) X (pc := 6) dX5_houseItem_6 (by decide) ?_
  refine rb_bipush (v := 7) X (pc := 7) dX5_houseItem_7 (by decide) ?_
  refine rc_callVv X (pc := 9) cvX5_number mX5_269 rb_ob9 (qNmT (m := 7) hn hM7 hN1.2 (by decide) hT) (by decide) rfl rfl (Nat.le_of_ble_eq_true rfl) dX5_houseItem_9 ?_
  refine rb_aload_n X (pc := 12) dX5_houseItem_12 rfl rfl ?_
  refine rc_getI X (pc := 13) fX5_235 rb_ob9 rfl gp_11 dX5_houseItem_13 ?_
  refine rb_if_eq X (pc := 16) (tgt := 23) dX5_houseItem_16 (by decide) (fun c16 => ?_) (fun c16 => absurd rfl c16)
  refine rb_aload_n X (pc := 23) dX5_houseItem_23 rfl rfl ?_
  refine rc_getI X (pc := 24) fX5_246 rb_ob9 rfl (gp_10.trans ((nv_V (m := 7) (by decide) hT).trans ev)) dX5_houseItem_24 ?_
  refine rb_istore_n X (pc := 27) dX5_houseItem_27 rfl (by decide) rfl rfl ?_
  refine rb_aload_n X (pc := 28) dX5_houseItem_28 rfl rfl ?_
  refine rb_ldc2 X (pc := 29) dX5_houseItem_29 kX5_285 ?_
  refine rb_iload_n X (pc := 32) dX5_houseItem_32 rfl rfl ?_
  refine rb_iconst (v := 0) X (pc := 33) dX5_houseItem_33 (by decide) ?_
  refine rc_callSi X (pc := 34) cvX5_partOf mX5_41 (qX5_partOf (w := 0)) (by decide) rfl rfl (Nat.le_of_ble_eq_true rfl) dX5_houseItem_34 ?_
  refine rb_iconst (v := 3) X (pc := 37) dX5_houseItem_37 (by decide) ?_
  refine rc_callV X (pc := 38) cvX5_partItem mX5_276 rb_ob9 (qPi (p := (true, (tN (M 6) n (tN (M 6) n a)), T)) (i := 8) (j := 0) (q := vv) (k := 3 + 3 * vv + 0) (m := 3) hn hM7 hN2.2 (fun b => wK_8) (by decide) (by omega) (fun S x => enc_uh (by omega) (by decide)) (by decide)) (by decide) rfl rfl (Nat.le_of_ble_eq_true rfl) dX5_houseItem_38 (fun r_38 h_38 p_38 => ?_)
  obtain ⟨rfl, v1, rfl⟩ := p_38
  refine sp_goS (S' := []) rfl ?_
  refine rb_aload_n X (pc := 41) dX5_houseItem_41 rfl rfl ?_
  refine rb_ldc2 X (pc := 42) dX5_houseItem_42 kX5_287 ?_
  refine rb_iload_n X (pc := 45) dX5_houseItem_45 rfl rfl ?_
  refine rb_iconst (v := 1) X (pc := 46) dX5_houseItem_46 (by decide) ?_
  refine rc_callSi X (pc := 47) cvX5_partOf mX5_41 (qX5_partOf (w := 1)) (by decide) rfl rfl (Nat.le_of_ble_eq_true rfl) dX5_houseItem_47 ?_
  refine rb_sipush (v := 999) X (pc := 50) dX5_houseItem_50 (by decide) ?_
  refine rc_callV X (pc := 53) cvX5_partItem mX5_276 rb_ob9 (qPi (p := (p_th (true, (tN (M 6) n (tN (M 6) n a)), T) (p_part (M 6) n 8 (nI 3) 0 vv))) (i := 9) (j := 1) (q := vv) (k := 3 + 3 * vv + 1) (m := 999) hn hM7 q1 (fun b => wK_9) (by decide) (by omega) (fun S x => enc_uh (by omega) (by decide)) (by decide)) (by decide) rfl rfl (Nat.le_of_ble_eq_true rfl) dX5_houseItem_53 (fun r_53 h_53 p_53 => ?_)
  obtain ⟨rfl, v2, rfl⟩ := p_53
  refine sp_goS (S' := []) rfl ?_
  refine rb_aload_n X (pc := 56) dX5_houseItem_56 rfl rfl ?_
  refine rb_ldc2 X (pc := 57) dX5_houseItem_57 kX5_289 ?_
  refine rb_iload_n X (pc := 60) dX5_houseItem_60 rfl rfl ?_
  refine rb_iconst (v := 2) X (pc := 61) dX5_houseItem_61 (by decide) ?_
  refine rc_callSi X (pc := 62) cvX5_partOf mX5_41 (qX5_partOf (w := 2)) (by decide) rfl rfl (Nat.le_of_ble_eq_true rfl) dX5_houseItem_62 ?_
  refine rb_bipush (v := 9) X (pc := 65) dX5_houseItem_65 (by decide) ?_
  refine rc_callV X (pc := 67) cvX5_partItem mX5_276 rb_ob9 (qPi (p := (p_th (p_th (true, (tN (M 6) n (tN (M 6) n a)), T) (p_part (M 6) n 8 (nI 3) 0 vv)) (p_part (M 6) n 9 (nI 999) 1 vv))) (i := 10) (j := 2) (q := vv) (k := 3 + 3 * vv + 2) (m := 9) hn hM7 q2 (fun b => wK_10) (by decide) (by omega) (fun S x => enc_uh (by omega) (by decide)) (by decide)) (by decide) rfl rfl (Nat.le_of_ble_eq_true rfl) dX5_houseItem_67 (fun r_67 h_67 p_67 => ?_)
  obtain ⟨rfl, v3, rfl⟩ := p_67
  refine sp_goS (S' := []) rfl ?_
  refine rb_vret (S := []) X (pc := 70) Y dX5_houseItem_70 ?_
  have e : p_house (M 6) n (tN (M 6) n a) T = (p_th (p_th (p_th (true, (tN (M 6) n (tN (M 6) n a)), T) (p_part (M 6) n 8 (nI 3) 0 vv)) (p_part (M 6) n 9 (nI 999) 1 vv)) (p_part (M 6) n 10 (nI 9) 2 vv)) := by rw [p_house, if_pos hT, ei, p_th_t (p := (true, (tN (M 6) n (tN (M 6) n a)), T)) rfl]; rfl
  exact ⟨rfl, v3, by rw [e]⟩
theorem qX5_houseItem {G : rb_G} {g : rb_H} {M T : rb_T} {n : Nat} (hn : n ≤ 120) (hM7 : M 7 0 = nI n) {a : Nat} {v : Int32} (ha : a ≤ n) (hok : sp_ok T) : rb_M G 6 yX5_houseItem cX5_houseItem 2 none [.ref (rb_ad G 9 0)] (mh g M n a v 0 T) (fun r h2 => r = none ∧ ∃ v2, h2 = HS g M n (p_house (M 6) n (tN (M 6) n a) T) v2) := by
  by_cases hT : tM (M 6) n (tN (M 6) n a) 7 = true
  · exact qHi_T hn hM7 ha hok hT
  · exact qHi_F hn hM7 ha hok hT
set_option maxRecDepth 100000 in
set_option maxHeartbeats 1000000 in
theorem qIt_K {G : rb_G} {g : rb_H} {M T : rb_T} {n : Nat} (hn : n ≤ 120) (hM7 : M 7 0 = nI n) {a : Nat} {v : Int32} (ha : a ≤ n) (hok : sp_ok T) (hk : p_kd (M 6) n a < 6) (h6 : ¬ tW (M 6) n a 6 = true) (h7 : ¬ tW (M 6) n a 7 = true) : rb_M G 7 yX5_item cX5_item 5 none [.ref (rb_ad G 9 0)] (mh g M n a v 0 T) (fun r h2 => r = none ∧ ∃ v2, h2 = HS g M n (p_item (M 6) n a T) v2) := by
  refine rb_meth (L := [.ref (rb_ad G 9 0), .null, .null, .null, .null]) (by decide) (Nat.le_of_ble_eq_true rfl) rfl (fun Z X Y => ?_)
  have X : rb_CX Z G cX5_item 5 RX5 7 := X
  have hN1 := tN_le (f := M 6) ha
  have hN2 := tN_le (f := M 6) hN1.2
  refine rb_aload_n X (pc := 0) dX5_item_0 rfl rfl ?_
  refine rc_callVi X (pc := 1) cvX5_kindHere mX5_291 rb_ob9 (qX5_kindHere hn hM7 ha) (by decide) rfl rfl (Nat.le_of_ble_eq_true rfl) dX5_item_1 ?_
  rw [if_pos hk]
  refine rb_istore_n X (pc := 4) dX5_item_4 rfl (by decide) rfl rfl ?_
  refine rb_aload_n X (pc := 5) dX5_item_5 rfl rfl ?_
  refine rc_callVl X (pc := 6) cvX5_word mX5_253 rb_ob9 (qW0 hn hM7 ha) (by decide) rfl rfl (Nat.le_of_ble_eq_true rfl) dX5_item_6 ?_
  refine rb_lstore_n X (pc := 9) dX5_item_9 rfl (by decide) rfl rfl ?_
  refine rb_iload_n X (pc := 10) dX5_item_10 rfl rfl ?_
  refine rb_if_lt X (pc := 11) (tgt := 22) dX5_item_11 (by decide) (fun c11 => absurd c11 (nI_pos (by omega))) (fun c11 => ?_)
  refine rb_aload_n X (pc := 14) dX5_item_14 rfl rfl ?_
  refine rb_iload_n X (pc := 15) dX5_item_15 rfl rfl ?_
  refine rc_callV X (pc := 16) cvX5_rumourItem mX5_294 rb_ob9 (qX5_rumourItem hn hM7 ha hok ⟨_, hk, rfl⟩) (by decide) rfl rfl (Nat.le_of_ble_eq_true rfl) dX5_item_16 (fun r_16 h_16 p_16 => ?_)
  obtain ⟨rfl, v2, rfl⟩ := p_16
  refine sp_goS (S' := []) rfl ?_
  refine rb_goto X (pc := 19) (tgt := 78) dX5_item_19 (by decide) ?_
  refine rb_vret (S := []) X (pc := 78) Y dX5_item_78 ?_
  have e : p_item (M 6) n a T = p_rum (M 6) n (nI (p_kd (M 6) n a)) a T := by rw [p_item, if_neg h6, if_neg h7, if_pos hk]
  exact ⟨rfl, v2, by rw [e]⟩
set_option maxRecDepth 100000 in
set_option maxHeartbeats 1000000 in
theorem qIt_H {G : rb_G} {g : rb_H} {M T : rb_T} {n : Nat} (hn : n ≤ 120) (hM7 : M 7 0 = nI n) {a : Nat} {v : Int32} (ha : a ≤ n) (hok : sp_ok T) (hk : ¬ p_kd (M 6) n a < 6) (h6 : tW (M 6) n a 6 = true) : rb_M G 7 yX5_item cX5_item 5 none [.ref (rb_ad G 9 0)] (mh g M n a v 0 T) (fun r h2 => r = none ∧ ∃ v2, h2 = HS g M n (p_item (M 6) n a T) v2) := by
  refine rb_meth (L := [.ref (rb_ad G 9 0), .null, .null, .null, .null]) (by decide) (Nat.le_of_ble_eq_true rfl) rfl (fun Z X Y => ?_)
  have X : rb_CX Z G cX5_item 5 RX5 7 := X
  have hN1 := tN_le (f := M 6) ha
  have hN2 := tN_le (f := M 6) hN1.2
  refine rb_aload_n X (pc := 0) dX5_item_0 rfl rfl ?_
  refine rc_callVi X (pc := 1) cvX5_kindHere mX5_291 rb_ob9 (qX5_kindHere hn hM7 ha) (by decide) rfl rfl (Nat.le_of_ble_eq_true rfl) dX5_item_1 ?_
  rw [if_neg hk]
  refine rb_istore_n X (pc := 4) dX5_item_4 rfl (by decide) rfl rfl ?_
  refine rb_aload_n X (pc := 5) dX5_item_5 rfl rfl ?_
  refine rc_callVl X (pc := 6) cvX5_word mX5_253 rb_ob9 (qW0 hn hM7 ha) (by decide) rfl rfl (Nat.le_of_ble_eq_true rfl) dX5_item_6 ?_
  refine rb_lstore_n X (pc := 9) dX5_item_9 rfl (by decide) rfl rfl ?_
  refine rb_iload_n X (pc := 10) dX5_item_10 rfl rfl ?_
  refine rb_if_lt X (pc := 11) (tgt := 22) dX5_item_11 (by decide) (fun c11 => ?_) (fun c11 => absurd (by decide) c11)
  refine rb_lload_n X (pc := 22) dX5_item_22 rfl rfl ?_
  refine rb_ldc2 X (pc := 23) dX5_item_23 kX5_297 ?_
  refine rb_lcmp X (pc := 26) dX5_item_26 ?_
  refine rb_if_ne X (pc := 27) (tgt := 37) dX5_item_27 (by decide) (fun c27 => absurd (lg_eq0.mpr (wK_6.mpr h6)) c27) (fun c27 => ?_)
  refine rb_aload_n X (pc := 30) dX5_item_30 rfl rfl ?_
  refine rc_callV X (pc := 31) cvX5_houseItem mX5_299 rb_ob9 (qX5_houseItem hn hM7 ha hok) (by decide) rfl rfl (Nat.le_of_ble_eq_true rfl) dX5_item_31 (fun r_31 h_31 p_31 => ?_)
  obtain ⟨rfl, v2, rfl⟩ := p_31
  refine sp_goS (S' := []) rfl ?_
  refine rb_goto X (pc := 34) (tgt := 78) dX5_item_34 (by decide) ?_
  refine rb_vret (S := []) X (pc := 78) Y dX5_item_78 ?_
  have e : p_item (M 6) n a T = p_house (M 6) n (tN (M 6) n a) T := by rw [p_item, if_pos h6]
  exact ⟨rfl, v2, by rw [e]⟩
set_option maxRecDepth 100000 in
set_option maxHeartbeats 1000000 in
theorem qIt_RT {G : rb_G} {g : rb_H} {M T : rb_T} {n : Nat} (hn : n ≤ 120) (hM7 : M 7 0 = nI n) {a : Nat} {v : Int32} (ha : a ≤ n) (hok : sp_ok T) (hk : ¬ p_kd (M 6) n a < 6) (h6 : ¬ tW (M 6) n a 6 = true) (h7 : tW (M 6) n a 7 = true) (hT : tM (M 6) n (tN (M 6) n a) 15 = true) : rb_M G 7 yX5_item cX5_item 5 none [.ref (rb_ad G 9 0)] (mh g M n a v 0 T) (fun r h2 => r = none ∧ ∃ v2, h2 = HS g M n (p_item (M 6) n a T) v2) := by
  refine rb_meth (L := [.ref (rb_ad G 9 0), .null, .null, .null, .null]) (by decide) (Nat.le_of_ble_eq_true rfl) rfl (fun Z X Y => ?_)
  have X : rb_CX Z G cX5_item 5 RX5 7 := X
  have hN1 := tN_le (f := M 6) ha
  have hN2 := tN_le (f := M 6) hN1.2
  refine rb_aload_n X (pc := 0) dX5_item_0 rfl rfl ?_
  refine rc_callVi X (pc := 1) cvX5_kindHere mX5_291 rb_ob9 (qX5_kindHere hn hM7 ha) (by decide) rfl rfl (Nat.le_of_ble_eq_true rfl) dX5_item_1 ?_
  rw [if_neg hk]
  refine rb_istore_n X (pc := 4) dX5_item_4 rfl (by decide) rfl rfl ?_
  refine rb_aload_n X (pc := 5) dX5_item_5 rfl rfl ?_
  refine rc_callVl X (pc := 6) cvX5_word mX5_253 rb_ob9 (qW0 hn hM7 ha) (by decide) rfl rfl (Nat.le_of_ble_eq_true rfl) dX5_item_6 ?_
  refine rb_lstore_n X (pc := 9) dX5_item_9 rfl (by decide) rfl rfl ?_
  refine rb_iload_n X (pc := 10) dX5_item_10 rfl rfl ?_
  refine rb_if_lt X (pc := 11) (tgt := 22) dX5_item_11 (by decide) (fun c11 => ?_) (fun c11 => absurd (by decide) c11)
  refine rb_lload_n X (pc := 22) dX5_item_22 rfl rfl ?_
  refine rb_ldc2 X (pc := 23) dX5_item_23 kX5_297 ?_
  refine rb_lcmp X (pc := 26) dX5_item_26 ?_
  refine rb_if_ne X (pc := 27) (tgt := 37) dX5_item_27 (by decide) (fun c27 => ?_) (fun c27 => absurd (wK_6.mp (lg_eq0.mp c27)) h6)
  refine rb_aload_n X (pc := 37) dX5_item_37 rfl rfl ?_
  refine rb_lload_n X (pc := 38) dX5_item_38 rfl rfl ?_
  refine rb_ldc2 X (pc := 39) dX5_item_39 kX5_302 ?_
  refine rb_lcmp X (pc := 42) dX5_item_42 ?_
  refine rb_if_ne X (pc := 43) (tgt := 50) dX5_item_43 (by decide) (fun c43 => absurd (lg_eq0.mpr (wK_7.mpr h7)) c43) (fun c43 => ?_)
  refine rb_iconst (v := 1) X (pc := 46) dX5_item_46 (by decide) ?_
  refine rb_goto X (pc := 47) (tgt := 51) dX5_item_47 (by decide) ?_
  refine rc_callVv X (pc := 51) cvX5_must mX5_249 rb_ob9 (qMt hn hM7 ha) (by decide) rfl rfl (Nat.le_of_ble_eq_true rfl) dX5_item_51 ?_
  refine rb_aload_n X (pc := 54) dX5_item_54 rfl rfl ?_
  refine rb_iconst (v := 0) X (pc := 55) dX5_item_55 (by decide) ?_
  refine rb_bipush (v := 15) X (pc := 56) dX5_item_56 (by decide) ?_
  refine rc_callVv X (pc := 58) cvX5_number mX5_269 rb_ob9 (qNmT (m := 15) hn hM7 hN1.2 (by decide) hT) (by decide) rfl rfl (Nat.le_of_ble_eq_true rfl) dX5_item_58 ?_
  refine rb_aload_n X (pc := 61) dX5_item_61 rfl rfl ?_
  refine rc_getI X (pc := 62) fX5_235 rb_ob9 rfl gp_11 dX5_item_62 ?_
  refine rb_if_ne X (pc := 65) (tgt := 78) dX5_item_65 (by decide) (fun c65 => absurd rfl c65) (fun c65 => ?_)
  refine rb_aload_n X (pc := 68) dX5_item_68 rfl rfl ?_
  refine rb_aload_n X (pc := 69) dX5_item_69 rfl rfl ?_
  refine rc_getI X (pc := 70) fX5_246 rb_ob9 rfl (gp_10.trans (nv_V (m := 15) (by decide) hT)) dX5_item_70 ?_
  refine rc_callVi X (pc := 73) cvX5_becomesTrue mX5_147 rb_ob9 (qX5_becomesTrue hok.1 hok.2.1 _) (by decide) rfl rfl (Nat.le_of_ble_eq_true rfl) dX5_item_73 ?_
  refine rb_istore X (pc := 76) dX5_item_76 (by decide) rfl rfl ?_
  refine rb_vret (S := []) X (pc := 78) Y dX5_item_78 ?_
  have e : p_item (M 6) n a T = (true, (tN (M 6) n (tN (M 6) n a)), sp_bt T (tV (M 6) n (tN (M 6) n a))) := by rw [p_item, if_neg h6, if_pos h7, p_true, if_pos hT]
  exact ⟨rfl, _, by rw [e]; rfl⟩
set_option maxRecDepth 100000 in
set_option maxHeartbeats 1000000 in
theorem qIt_RF {G : rb_G} {g : rb_H} {M T : rb_T} {n : Nat} (hn : n ≤ 120) (hM7 : M 7 0 = nI n) {a : Nat} {v : Int32} (ha : a ≤ n) (hok : sp_ok T) (hk : ¬ p_kd (M 6) n a < 6) (h6 : ¬ tW (M 6) n a 6 = true) (h7 : tW (M 6) n a 7 = true) (hT : ¬ tM (M 6) n (tN (M 6) n a) 15 = true) : rb_M G 7 yX5_item cX5_item 5 none [.ref (rb_ad G 9 0)] (mh g M n a v 0 T) (fun r h2 => r = none ∧ ∃ v2, h2 = HS g M n (p_item (M 6) n a T) v2) := by
  refine rb_meth (L := [.ref (rb_ad G 9 0), .null, .null, .null, .null]) (by decide) (Nat.le_of_ble_eq_true rfl) rfl (fun Z X Y => ?_)
  have X : rb_CX Z G cX5_item 5 RX5 7 := X
  have hN1 := tN_le (f := M 6) ha
  have hN2 := tN_le (f := M 6) hN1.2
  refine rb_aload_n X (pc := 0) dX5_item_0 rfl rfl ?_
  refine rc_callVi X (pc := 1) cvX5_kindHere mX5_291 rb_ob9 (qX5_kindHere hn hM7 ha) (by decide) rfl rfl (Nat.le_of_ble_eq_true rfl) dX5_item_1 ?_
  rw [if_neg hk]
  refine rb_istore_n X (pc := 4) dX5_item_4 rfl (by decide) rfl rfl ?_
  refine rb_aload_n X (pc := 5) dX5_item_5 rfl rfl ?_
  refine rc_callVl X (pc := 6) cvX5_word mX5_253 rb_ob9 (qW0 hn hM7 ha) (by decide) rfl rfl (Nat.le_of_ble_eq_true rfl) dX5_item_6 ?_
  refine rb_lstore_n X (pc := 9) dX5_item_9 rfl (by decide) rfl rfl ?_
  refine rb_iload_n X (pc := 10) dX5_item_10 rfl rfl ?_
  refine rb_if_lt X (pc := 11) (tgt := 22) dX5_item_11 (by decide) (fun c11 => ?_) (fun c11 => absurd (by decide) c11)
  refine rb_lload_n X (pc := 22) dX5_item_22 rfl rfl ?_
  refine rb_ldc2 X (pc := 23) dX5_item_23 kX5_297 ?_
  refine rb_lcmp X (pc := 26) dX5_item_26 ?_
  refine rb_if_ne X (pc := 27) (tgt := 37) dX5_item_27 (by decide) (fun c27 => ?_) (fun c27 => absurd (wK_6.mp (lg_eq0.mp c27)) h6)
  refine rb_aload_n X (pc := 37) dX5_item_37 rfl rfl ?_
  refine rb_lload_n X (pc := 38) dX5_item_38 rfl rfl ?_
  refine rb_ldc2 X (pc := 39) dX5_item_39 kX5_302 ?_
  refine rb_lcmp X (pc := 42) dX5_item_42 ?_
  refine rb_if_ne X (pc := 43) (tgt := 50) dX5_item_43 (by decide) (fun c43 => absurd (lg_eq0.mpr (wK_7.mpr h7)) c43) (fun c43 => ?_)
  refine rb_iconst (v := 1) X (pc := 46) dX5_item_46 (by decide) ?_
  refine rb_goto X (pc := 47) (tgt := 51) dX5_item_47 (by decide) ?_
  refine rc_callVv X (pc := 51) cvX5_must mX5_249 rb_ob9 (qMt hn hM7 ha) (by decide) rfl rfl (Nat.le_of_ble_eq_true rfl) dX5_item_51 ?_
  refine rb_aload_n X (pc := 54) dX5_item_54 rfl rfl ?_
  refine rb_iconst (v := 0) X (pc := 55) dX5_item_55 (by decide) ?_
  refine rb_bipush (v := 15) X (pc := 56) dX5_item_56 (by decide) ?_
  refine rc_callVv X (pc := 58) cvX5_number mX5_269 rb_ob9 (qNmF (m := 15) hn hM7 hN1.2 (by decide) hT) (by decide) rfl rfl (Nat.le_of_ble_eq_true rfl) dX5_item_58 ?_
  refine rb_aload_n X (pc := 61) dX5_item_61 rfl rfl ?_
  refine rc_getI X (pc := 62) fX5_235 rb_ob9 rfl gp_11 dX5_item_62 ?_
  refine rb_if_ne X (pc := 65) (tgt := 78) dX5_item_65 (by decide) (fun c65 => ?_) (fun c65 => absurd c65 (by decide))
  refine rb_vret (S := []) X (pc := 78) Y dX5_item_78 ?_
  have e : p_item (M 6) n a T = (false, (tN (M 6) n a), T) := by rw [p_item, if_neg h6, if_pos h7, p_true, if_neg hT]
  exact ⟨rfl, _, by rw [e]; rfl⟩
set_option maxRecDepth 100000 in
set_option maxHeartbeats 1000000 in
theorem qIt_N {G : rb_G} {g : rb_H} {M T : rb_T} {n : Nat} (hn : n ≤ 120) (hM7 : M 7 0 = nI n) {a : Nat} {v : Int32} (ha : a ≤ n) (hok : sp_ok T) (hk : ¬ p_kd (M 6) n a < 6) (h6 : ¬ tW (M 6) n a 6 = true) (h7 : ¬ tW (M 6) n a 7 = true) : rb_M G 7 yX5_item cX5_item 5 none [.ref (rb_ad G 9 0)] (mh g M n a v 0 T) (fun r h2 => r = none ∧ ∃ v2, h2 = HS g M n (p_item (M 6) n a T) v2) := by
  refine rb_meth (L := [.ref (rb_ad G 9 0), .null, .null, .null, .null]) (by decide) (Nat.le_of_ble_eq_true rfl) rfl (fun Z X Y => ?_)
  have X : rb_CX Z G cX5_item 5 RX5 7 := X
  have hN1 := tN_le (f := M 6) ha
  have hN2 := tN_le (f := M 6) hN1.2
  refine rb_aload_n X (pc := 0) dX5_item_0 rfl rfl ?_
  refine rc_callVi X (pc := 1) cvX5_kindHere mX5_291 rb_ob9 (qX5_kindHere hn hM7 ha) (by decide) rfl rfl (Nat.le_of_ble_eq_true rfl) dX5_item_1 ?_
  rw [if_neg hk]
  refine rb_istore_n X (pc := 4) dX5_item_4 rfl (by decide) rfl rfl ?_
  refine rb_aload_n X (pc := 5) dX5_item_5 rfl rfl ?_
  refine rc_callVl X (pc := 6) cvX5_word mX5_253 rb_ob9 (qW0 hn hM7 ha) (by decide) rfl rfl (Nat.le_of_ble_eq_true rfl) dX5_item_6 ?_
  refine rb_lstore_n X (pc := 9) dX5_item_9 rfl (by decide) rfl rfl ?_
  refine rb_iload_n X (pc := 10) dX5_item_10 rfl rfl ?_
  refine rb_if_lt X (pc := 11) (tgt := 22) dX5_item_11 (by decide) (fun c11 => ?_) (fun c11 => absurd (by decide) c11)
  refine rb_lload_n X (pc := 22) dX5_item_22 rfl rfl ?_
  refine rb_ldc2 X (pc := 23) dX5_item_23 kX5_297 ?_
  refine rb_lcmp X (pc := 26) dX5_item_26 ?_
  refine rb_if_ne X (pc := 27) (tgt := 37) dX5_item_27 (by decide) (fun c27 => ?_) (fun c27 => absurd (wK_6.mp (lg_eq0.mp c27)) h6)
  refine rb_aload_n X (pc := 37) dX5_item_37 rfl rfl ?_
  refine rb_lload_n X (pc := 38) dX5_item_38 rfl rfl ?_
  refine rb_ldc2 X (pc := 39) dX5_item_39 kX5_302 ?_
  refine rb_lcmp X (pc := 42) dX5_item_42 ?_
  refine rb_if_ne X (pc := 43) (tgt := 50) dX5_item_43 (by decide) (fun c43 => ?_) (fun c43 => absurd (wK_7.mp (lg_eq0.mp c43)) h7)
  refine rb_iconst (v := 0) X (pc := 50) dX5_item_50 (by decide) ?_
  refine rc_callVv X (pc := 51) cvX5_must mX5_249 rb_ob9 (qMf hn hM7) (by decide) rfl rfl (Nat.le_of_ble_eq_true rfl) dX5_item_51 ?_
  refine rb_aload_n X (pc := 54) dX5_item_54 rfl rfl ?_
  refine rb_iconst (v := 0) X (pc := 55) dX5_item_55 (by decide) ?_
  refine rb_bipush (v := 15) X (pc := 56) dX5_item_56 (by decide) ?_
  refine rc_callVv X (pc := 58) cvX5_number mX5_269 rb_ob9 (qNm1 hn hM7 _ _) (by decide) rfl rfl (Nat.le_of_ble_eq_true rfl) dX5_item_58 ?_
  refine rb_aload_n X (pc := 61) dX5_item_61 rfl rfl ?_
  refine rc_getI X (pc := 62) fX5_235 rb_ob9 rfl gp_11 dX5_item_62 ?_
  refine rb_if_ne X (pc := 65) (tgt := 78) dX5_item_65 (by decide) (fun c65 => ?_) (fun c65 => absurd c65 (by decide))
  refine rb_vret (S := []) X (pc := 78) Y dX5_item_78 ?_
  have e : p_item (M 6) n a T = (false, a, T) := by rw [p_item, if_neg h6, if_neg h7, if_neg hk]
  exact ⟨rfl, _, by rw [e]; rfl⟩
theorem kd_W {f : Nat → Int32} {n a : Nat} (h : p_kd f n a < 6) : tW f n a (p_kd f n a) = true := fa_first_yes (fun k => tW f n a k) 6 h
theorem qX5_item {G : rb_G} {g : rb_H} {M T : rb_T} {n : Nat} (hn : n ≤ 120) (hM7 : M 7 0 = nI n) {a : Nat} {v : Int32} (ha : a ≤ n) (hok : sp_ok T) : rb_M G 7 yX5_item cX5_item 5 none [.ref (rb_ad G 9 0)] (mh g M n a v 0 T) (fun r h2 => r = none ∧ ∃ v2, h2 = HS g M n (p_item (M 6) n a T) v2) := by
  by_cases hk : p_kd (M 6) n a < 6
  · have hw := kd_W hk
    refine qIt_K hn hM7 ha hok hk (fun z => ?_) (fun z => ?_)
    · have := tW_ex (by omega) (by decide) hw z; omega
    · have := tW_ex (by omega) (by decide) hw z; omega
  · by_cases h6 : tW (M 6) n a 6 = true
    · exact qIt_H hn hM7 ha hok hk h6
    · by_cases h7 : tW (M 6) n a 7 = true
      · by_cases hT : tM (M 6) n (tN (M 6) n a) 15 = true
        · exact qIt_RT hn hM7 ha hok hk h6 h7 hT
        · exact qIt_RF hn hM7 ha hok hk h6 h7 hT
      · exact qIt_N hn hM7 ha hok hk h6 h7
/-- what becomes of a tape behind an item -/
def p_go (f : Nat → Int32) (n m it : Nat) (p : p_R) : Int32 × rb_T := if p.1 then (if tS f n p.2.1 = 0 then (nI it, p.2.2) else if tS f n p.2.1 = 3 then p_tell f n m (it + 1) (tN f n p.2.1) p.2.2 else (-1 - nI p.2.1, p.2.2)) else (-1 - nI p.2.1, p.2.2)
theorem p_tell_go {f : Nat → Int32} {n m it a : Nat} {T : rb_T} : p_tell f n (m + 1) it a T = p_go f n m it (p_item f n a T) := rfl
theorem p_item_end {f : Nat → Int32} {n a : Nat} {T : rb_T} (h : ¬ a < n) : p_item f n a T = (false, a, T) := by
  have hs : tS f n a = 0 := if_neg h
  have hw : ∀ i, ¬ tW f n a i = true := by
    intro i z
    unfold tW at z
    rw [hs] at z
    have := (Bool.and_eq_true_iff.mp z).1
    exact absurd this (by decide)
  have hk : p_kd f n a = 6 := fa_first_none (fun c _ => eq_false_of_ne_true (hw c))
  rw [p_item, if_neg (hw 6), if_neg (hw 7), hk]
  rfl
theorem p_go_f {f : Nat → Int32} {n m it : Nat} {p : p_R} (h : ¬ p.1 = true) : p_go f n m it p = (-1 - nI p.2.1, p.2.2) := if_neg h
theorem p_tell_0 {f : Nat → Int32} {n m it a : Nat} {T : rb_T} (h : ¬ a < n) : p_tell f n m it a T = p_go f n 0 it (p_item f n a T) := by
  cases m with
  | zero => rw [p_item_end h, p_go_f (by simp)]; rfl
  | succ m => rw [p_tell_go, p_item_end h, p_go_f (by simp), p_go_f (by simp)]
theorem p_step {f : Nat → Int32} {n m it a : Nat} {T : rb_T} (h : it + m = 121) (h1 : it ≤ a + 1) (hn : n ≤ 120) (ha : a ≤ n) : ∃ m2, (it + m2 + 1 = 121 ∨ ¬ a < n) ∧ p_tell f n m it a T = p_go f n m2 it (p_item f n a T) := by
  by_cases e : a < n
  · cases m with
    | zero => omega
    | succ m => exact ⟨m, Or.inl (by omega), p_tell_go⟩
  · exact ⟨0, Or.inr e, p_tell_0 e⟩
theorem p_item_adv {f : Nat → Int32} {n a : Nat} {T : rb_T} (h : ¬ a < n) : ¬ (p_item f n a T).1 = true := by rw [p_item_end h]; simp
theorem p_part_ge {f : Nat → Int32} {n i j q c : Nat} {m : Int32} {T : rb_T} (hc : c ≤ n) : c ≤ (p_part f n i m j q c T).2.1 := by
  unfold p_part
  have h1 := tN_le (f := f) hc
  have h2 := tN_le (f := f) h1.2
  split
  · split
    · exact Nat.le_trans h1.1 h2.1
    · exact h1.1
  · exact Nat.le_refl _
theorem p_lod_ge {f : Nat → Int32} {n q c : Nat} {T : rb_T} (hc : c ≤ n) : c ≤ (p_lod f n q c T).2.1 := by
  unfold p_lod
  have h1 := tN_le (f := f) hc
  have h2 := tN_le (f := f) h1.2
  split
  · split
    · exact Nat.le_trans h1.1 h2.1
    · exact h1.1
  · exact Nat.le_refl _
def p_gr (c n : Nat) (p : p_R) : Prop := c ≤ p.2.1 ∧ p.2.1 ≤ n
theorem p_item_ge {f : Nat → Int32} {n a : Nat} {T : rb_T} (ha : a ≤ n) : p_gr a n (p_item f n a T) := by
  have h1 := tN_le (f := f) ha
  have h2 := tN_le (f := f) h1.2
  have h3 := tN_le (f := f) h2.2
  unfold p_item
  split
  · unfold p_house
    split
    · refine p_th_g (Q := p_gr a n) (p_th_g (Q := p_gr a n) ⟨Nat.le_trans (Nat.le_trans h1.1 h2.1) (p_part_ge h2.2), p_part_le h2.2⟩ (fun g => ⟨Nat.le_trans g.1 (p_part_ge g.2), p_part_le g.2⟩)) (fun g => ⟨Nat.le_trans g.1 (p_part_ge g.2), p_part_le g.2⟩)
    · exact ⟨h1.1, h1.2⟩
  · split
    · unfold p_true
      split
      · exact ⟨Nat.le_trans h1.1 h2.1, h2.2⟩
      · exact ⟨h1.1, h1.2⟩
    · split
      · unfold p_rum
        split
        · exact ⟨Nat.le_refl _, ha⟩
        · split
          · unfold p_rum2
            split
            · exact p_th_g (Q := p_gr a n) ⟨Nat.le_trans (Nat.le_trans (Nat.le_trans h1.1 h2.1) h3.1) (p_part_ge h3.2), p_part_le h3.2⟩ (fun g => ⟨Nat.le_trans g.1 (p_lod_ge g.2), p_lod_le g.2⟩)
            · exact ⟨Nat.le_trans h1.1 h2.1, h2.2⟩
          · exact ⟨h1.1, h1.2⟩
      · exact ⟨Nat.le_refl _, ha⟩
theorem b01 {P : Prop} [Decidable P] : ((if P then (0 : Int32) else 1) = 0) ↔ P := by by_cases h : P <;> simp [h]
theorem mp_in {h : rb_H} {T : rb_T} : ms h T = mp h (h.1 9) (h.1 9 8 0) (h.1 9 9 0) (h.1 9 10 0) (h.1 9 11 0) T := by
  show _ = ms (rb_st h 9 (h5 (h.1 9) _ _ _ _)) T
  rw [h5_self, rb_st_self rfl]
theorem MI_mu {σ : Sg} {g : rb_H} {N T : rb_T} {j : Nat} {x : Int32} (hj : frj j) (hM : MI σ (ms (rb_st g 9 N) T)) : MI σ (ms (rb_st g 9 (u2 N j 0 x)) T) := by
  rw [← mp_u hj.1]; exact MI_u hj hM
theorem MI_mp {σ : Sg} {g : rb_H} {T : rb_T} {a t v w : Int32} (hM : MI σ (ms g T)) : MI σ (mp g (g.1 9) a t v w T) := by
  have h0 : MI σ (ms (rb_st g 9 (g.1 9)) T) := by rw [rb_st_self rfl]; exact hM
  exact MI_mu frj_11 (MI_mu frj_10 (MI_mu frj_9 (MI_mu frj_8 h0)))
theorem ot_mp {h g : rb_H} {M T : rb_T} {a t v w : Int32} (z : rb_ot h g) : rb_ot h (mp g M a t v w T) := ot_r (fun o ho => ⟨(rb_st_ne ho).trans (z o ho).1, (z o ho).2⟩)
theorem m1_le {a : Nat} (h : a < 2 ^ 30) : (-1 : Int32) - nI a ≤ 0 := by
  rw [fa_le, Int32.toInt_sub, nI_toInt (by omega)]
  have c1 : (-1 : Int32).toInt = -1 := by decide
  have c0 : (0 : Int32).toInt = 0 := by decide
  rw [c1, c0, Int.bmod_eq_of_le (by omega) (by omega)]
  omega
set_option maxRecDepth 100000 in
set_option maxHeartbeats 1000000 in
theorem lpTw_w {Z : rb_Z} {G : rb_G} {σ : Sg} {h g : rb_H} {M : rb_T} (hn : sL σ ≤ 120) (hM7 : M 7 0 = nI (sL σ)) (hM6 : M 6 = sB σ) (hM2 : M 2 = enc (sT σ)) (hG : ∀ (S : rb_T) (a t v w : Int32), MI (wT σ S) (mp g M a t v w S)) (hO : ∀ (S : rb_T) (a t v w : Int32), rb_ot h (mp g M a t v w S)) {a it : Nat} {v : Int32} {S : rb_T} (ha : a ≤ sL σ) (hR : (k_town σ).1 = -1 - nI a) (X : rb_CX Z G cX5_town 2 RX5 8) (Y : rb_RT Z G (some .int) (PM h (r_town σ))) : ∀ fu : Nat, 0 < fu → rb_WP Z G 2 59 [.ref (rb_ad G 9 0), .int (nI it)] [] (mh g M (sL σ) a v 1 S) := by
  intro fu
  induction fu with
  | zero => intro h0; omega
  | succ fu ih =>
    intro h0
    refine rb_aload_n X (pc := 59) dX5_town_59 rfl rfl ?_
    refine rb_aload_n X (pc := 60) dX5_town_60 rfl rfl ?_
    refine rc_getI X (pc := 61) fX5_235 rb_ob9 rfl gp_11 dX5_town_61 ?_
    refine rb_if_ne X (pc := 64) (tgt := 78) dX5_town_64 (by decide) (fun c64 => ?_) (fun c64 => absurd c64 (by decide))
    refine rb_iconst (v := 1) X (pc := 78) dX5_town_78 (by decide) ?_
    refine rb_goto X (pc := 79) (tgt := 83) dX5_town_79 (by decide) ?_
    refine rc_put X (pc := 83) fX5_235 gX5_11 rb_ob9 rfl rfl rfl mp_11 dX5_town_83 ?_
    refine rb_aload_n X (pc := 86) dX5_town_86 rfl rfl ?_
    refine rc_getI X (pc := 87) fX5_235 rb_ob9 rfl gp_11 dX5_town_87 ?_
    refine rb_if_eq X (pc := 90) (tgt := 97) dX5_town_90 (by decide) (fun c90 => absurd c90 (by decide)) (fun c90 => ?_)
    refine rb_aload_n X (pc := 93) dX5_town_93 rfl rfl ?_
    refine rc_callVv X (pc := 94) cvX5_putsBack mX5_310 rb_ob9 (qPb (show (rb_st g 9 _).1 9 2 = enc (sT σ) from by rw [rb_st_at]; exact hM2)) (by decide) rfl rfl (Nat.le_of_ble_eq_true rfl) dX5_town_94 ?_
    refine rb_aload_n X (pc := 97) dX5_town_97 rfl rfl ?_
    refine rb_iconst (v := 0) X (pc := 98) dX5_town_98 (by decide) ?_
    refine rc_put X (pc := 99) fX5_208 gX5_7 rb_ob9 rfl rfl rfl rfl dX5_town_99 ?_
    refine rb_aload_n X (pc := 102) dX5_town_102 rfl rfl ?_
    refine rc_getI X (pc := 103) fX5_235 rb_ob9 rfl (show (rb_u (mp g M (nI a) (nI (tE (M 6) (sL σ) a)) v 1 (sT σ)) 9 7 0 0).1 9 11 0 = 1 from rfl) dX5_town_103 ?_
    refine rb_if_eq X (pc := 106) (tgt := 118) dX5_town_106 (by decide) (fun c106 => absurd c106 (by decide)) (fun c106 => ?_)
    refine rb_iconst (v := (-1)) X (pc := 109) dX5_town_109 (by decide) ?_
    refine rb_aload_n X (pc := 110) dX5_town_110 rfl rfl ?_
    refine rc_getI X (pc := 111) fX5_223 rb_ob9 rfl (show (rb_u (mp g M (nI a) (nI (tE (M 6) (sL σ) a)) v 1 (sT σ)) 9 7 0 0).1 9 8 0 = nI a from rfl) dX5_town_111 ?_
    refine rb_isub X (pc := 114) dX5_town_114 ?_
    refine rb_goto X (pc := 115) (tgt := 119) dX5_town_115 (by decide) ?_
    refine rb_iret (S := []) X (pc := 119) Y dX5_town_119 ?_
    exact pm_g (MI_L (hG (sT σ) _ _ _ _) 0) (ot_u (hO _ _ _ _ _)) (by rw [r_town, hR, if_neg (by rw [Int32.not_lt]; exact m1_le (by omega))]; rfl)
set_option maxRecDepth 100000 in
set_option maxHeartbeats 1000000 in
theorem lpTw_b {Z : rb_Z} {G : rb_G} {σ : Sg} {h g : rb_H} {M : rb_T} (hn : sL σ ≤ 120) (hM7 : M 7 0 = nI (sL σ)) (hM6 : M 6 = sB σ) (hM2 : M 2 = enc (sT σ)) (hG : ∀ (S : rb_T) (a t v w : Int32), MI (wT σ S) (mp g M a t v w S)) (hO : ∀ (S : rb_T) (a t v w : Int32), rb_ot h (mp g M a t v w S)) {a it : Nat} {v : Int32} {S : rb_T} (ha : a ≤ sL σ) (hl : a < sL σ) (hR : (k_town σ).1 = -1 - nI a) (X : rb_CX Z G cX5_town 2 RX5 8) (Y : rb_RT Z G (some .int) (PM h (r_town σ))) : ∀ fu : Nat, 0 < fu → rb_WP Z G 2 59 [.ref (rb_ad G 9 0), .int (nI it)] [] (mh g M (sL σ) a v 0 S) := by
  intro fu
  induction fu with
  | zero => intro h0; omega
  | succ fu ih =>
    intro h0
    refine rb_aload_n X (pc := 59) dX5_town_59 rfl rfl ?_
    refine rb_aload_n X (pc := 60) dX5_town_60 rfl rfl ?_
    refine rc_getI X (pc := 61) fX5_235 rb_ob9 rfl gp_11 dX5_town_61 ?_
    refine rb_if_ne X (pc := 64) (tgt := 78) dX5_town_64 (by decide) (fun c64 => absurd rfl c64) (fun c64 => ?_)
    refine rb_aload_n X (pc := 67) dX5_town_67 rfl rfl ?_
    refine rc_getI X (pc := 68) fX5_223 rb_ob9 rfl gp_8 dX5_town_68 ?_
    refine rb_aload_n X (pc := 71) dX5_town_71 rfl rfl ?_
    refine rc_getI X (pc := 72) fX5_208 rb_ob9 rfl (gp_7 hM7) dX5_town_72 ?_
    refine rb_icmp_ge X (pc := 75) (tgt := 82) dX5_town_75 (by decide) (fun c75 => absurd ((sp_geI (n := sL σ) rfl (by omega) (by omega)).mp c75) (by omega)) (fun c75 => ?_)
    refine rb_iconst (v := 1) X (pc := 78) dX5_town_78 (by decide) ?_
    refine rb_goto X (pc := 79) (tgt := 83) dX5_town_79 (by decide) ?_
    refine rc_put X (pc := 83) fX5_235 gX5_11 rb_ob9 rfl rfl rfl mp_11 dX5_town_83 ?_
    refine rb_aload_n X (pc := 86) dX5_town_86 rfl rfl ?_
    refine rc_getI X (pc := 87) fX5_235 rb_ob9 rfl gp_11 dX5_town_87 ?_
    refine rb_if_eq X (pc := 90) (tgt := 97) dX5_town_90 (by decide) (fun c90 => absurd c90 (by decide)) (fun c90 => ?_)
    refine rb_aload_n X (pc := 93) dX5_town_93 rfl rfl ?_
    refine rc_callVv X (pc := 94) cvX5_putsBack mX5_310 rb_ob9 (qPb (show (rb_st g 9 _).1 9 2 = enc (sT σ) from by rw [rb_st_at]; exact hM2)) (by decide) rfl rfl (Nat.le_of_ble_eq_true rfl) dX5_town_94 ?_
    refine rb_aload_n X (pc := 97) dX5_town_97 rfl rfl ?_
    refine rb_iconst (v := 0) X (pc := 98) dX5_town_98 (by decide) ?_
    refine rc_put X (pc := 99) fX5_208 gX5_7 rb_ob9 rfl rfl rfl rfl dX5_town_99 ?_
    refine rb_aload_n X (pc := 102) dX5_town_102 rfl rfl ?_
    refine rc_getI X (pc := 103) fX5_235 rb_ob9 rfl (show (rb_u (mp g M (nI a) (nI (tE (M 6) (sL σ) a)) v 1 (sT σ)) 9 7 0 0).1 9 11 0 = 1 from rfl) dX5_town_103 ?_
    refine rb_if_eq X (pc := 106) (tgt := 118) dX5_town_106 (by decide) (fun c106 => absurd c106 (by decide)) (fun c106 => ?_)
    refine rb_iconst (v := (-1)) X (pc := 109) dX5_town_109 (by decide) ?_
    refine rb_aload_n X (pc := 110) dX5_town_110 rfl rfl ?_
    refine rc_getI X (pc := 111) fX5_223 rb_ob9 rfl (show (rb_u (mp g M (nI a) (nI (tE (M 6) (sL σ) a)) v 1 (sT σ)) 9 7 0 0).1 9 8 0 = nI a from rfl) dX5_town_111 ?_
    refine rb_isub X (pc := 114) dX5_town_114 ?_
    refine rb_goto X (pc := 115) (tgt := 119) dX5_town_115 (by decide) ?_
    refine rb_iret (S := []) X (pc := 119) Y dX5_town_119 ?_
    exact pm_g (MI_L (hG (sT σ) _ _ _ _) 0) (ot_u (hO _ _ _ _ _)) (by rw [r_town, hR, if_neg (by rw [Int32.not_lt]; exact m1_le (by omega))]; rfl)
set_option maxRecDepth 100000 in
set_option maxHeartbeats 1000000 in
theorem lpTw_k {Z : rb_Z} {G : rb_G} {σ : Sg} {h g : rb_H} {M : rb_T} (hn : sL σ ≤ 120) (hM7 : M 7 0 = nI (sL σ)) (hM6 : M 6 = sB σ) (hM2 : M 2 = enc (sT σ)) (hG : ∀ (S : rb_T) (a t v w : Int32), MI (wT σ S) (mp g M a t v w S)) (hO : ∀ (S : rb_T) (a t v w : Int32), rb_ot h (mp g M a t v w S)) {a it : Nat} {v : Int32} {S : rb_T} (ha : a ≤ sL σ) (hl : ¬ a < sL σ) (hi : 1 ≤ it ∧ it ≤ 121) (hR : k_town σ = (nI it, S)) (X : rb_CX Z G cX5_town 2 RX5 8) (Y : rb_RT Z G (some .int) (PM h (r_town σ))) : ∀ fu : Nat, 0 < fu → rb_WP Z G 2 59 [.ref (rb_ad G 9 0), .int (nI it)] [] (mh g M (sL σ) a v 0 S) := by
  intro fu
  induction fu with
  | zero => intro h0; omega
  | succ fu ih =>
    intro h0
    refine rb_aload_n X (pc := 59) dX5_town_59 rfl rfl ?_
    refine rb_aload_n X (pc := 60) dX5_town_60 rfl rfl ?_
    refine rc_getI X (pc := 61) fX5_235 rb_ob9 rfl gp_11 dX5_town_61 ?_
    refine rb_if_ne X (pc := 64) (tgt := 78) dX5_town_64 (by decide) (fun c64 => absurd rfl c64) (fun c64 => ?_)
    refine rb_aload_n X (pc := 67) dX5_town_67 rfl rfl ?_
    refine rc_getI X (pc := 68) fX5_223 rb_ob9 rfl gp_8 dX5_town_68 ?_
    refine rb_aload_n X (pc := 71) dX5_town_71 rfl rfl ?_
    refine rc_getI X (pc := 72) fX5_208 rb_ob9 rfl (gp_7 hM7) dX5_town_72 ?_
    refine rb_icmp_ge X (pc := 75) (tgt := 82) dX5_town_75 (by decide) (fun c75 => ?_) (fun c75 => absurd ((sp_geI (n := sL σ) rfl (by omega) (by omega)).mpr (by omega)) c75)
    refine rb_iconst (v := 0) X (pc := 82) dX5_town_82 (by decide) ?_
    refine rc_put X (pc := 83) fX5_235 gX5_11 rb_ob9 rfl rfl rfl mp_11 dX5_town_83 ?_
    refine rb_aload_n X (pc := 86) dX5_town_86 rfl rfl ?_
    refine rc_getI X (pc := 87) fX5_235 rb_ob9 rfl gp_11 dX5_town_87 ?_
    refine rb_if_eq X (pc := 90) (tgt := 97) dX5_town_90 (by decide) (fun c90 => ?_) (fun c90 => absurd rfl c90)
    refine rb_aload_n X (pc := 97) dX5_town_97 rfl rfl ?_
    refine rb_iconst (v := 0) X (pc := 98) dX5_town_98 (by decide) ?_
    refine rc_put X (pc := 99) fX5_208 gX5_7 rb_ob9 rfl rfl rfl rfl dX5_town_99 ?_
    refine rb_aload_n X (pc := 102) dX5_town_102 rfl rfl ?_
    refine rc_getI X (pc := 103) fX5_235 rb_ob9 rfl (show (rb_u (mp g M (nI a) (nI (tE (M 6) (sL σ) a)) v 0 S) 9 7 0 0).1 9 11 0 = 0 from rfl) dX5_town_103 ?_
    refine rb_if_eq X (pc := 106) (tgt := 118) dX5_town_106 (by decide) (fun c106 => ?_) (fun c106 => absurd rfl c106)
    refine rb_iload_n X (pc := 118) dX5_town_118 rfl rfl ?_
    refine rb_iret (S := []) X (pc := 119) Y dX5_town_119 ?_
    exact pm_g (MI_L (hG S _ _ _ _) 0) (ot_u (hO _ _ _ _ _)) (by
      have hp : (0 : Int32) < nI it := (nI_ltI (a := 0) (by omega) (by omega)).mpr (by omega)
      rw [r_town, hR]
      show (nI it, wB (if 0 < nI it then _ else _) _ _) = _
      rw [if_pos hp]
      rfl)
set_option maxRecDepth 100000 in
set_option maxHeartbeats 1000000 in
theorem lpX5_town_24 {Z : rb_Z} {G : rb_G} {σ : Sg} {h g : rb_H} {M : rb_T} (hn : sL σ ≤ 120) (hM7 : M 7 0 = nI (sL σ)) (hM6 : M 6 = sB σ) (hM2 : M 2 = enc (sT σ)) (hG : ∀ (S : rb_T) (a t v w : Int32), MI (wT σ S) (mp g M a t v w S)) (hO : ∀ (S : rb_T) (a t v w : Int32), rb_ot h (mp g M a t v w S)) {R : Int32 × rb_T} (hR : k_town σ = R) (X : rb_CX Z G cX5_town 2 RX5 8) (Y : rb_RT Z G (some .int) (PM h (r_town σ))) : ∀ fu : Nat, ∀ (it m : Nat) (p : p_R) (v : Int32), p.2.1 ≤ sL σ → sp_ok p.2.2 → sL σ + 1 ≤ p.2.1 + fu → 1 ≤ it ∧ it ≤ 121 → (p.1 = true → it + m + 1 = 121 ∧ it ≤ p.2.1 + 1) → p_go (M 6) (sL σ) m it p = R → rb_WP Z G 2 24 [.ref (rb_ad G 9 0), .int (nI it)] [] (HS g M (sL σ) p v) := by
  intro fu
  induction fu with
  | zero => intro it m p v hpl hpo hf hit hinv hg; omega
  | succ fu ih =>
    intro it m p v hpl hpo hf hit hinv hg
    refine rb_aload_n X (pc := 24) dX5_town_24 rfl rfl ?_
    refine rc_getI X (pc := 25) fX5_235 rb_ob9 rfl (gp_11 : (HS g M (sL σ) p v).1 9 11 0 = if p.1 then 0 else 1) dX5_town_25 ?_
    refine rb_if_ne X (pc := 28) (tgt := 59) dX5_town_28 (by decide) (fun c28 => ?_) (fun c28 => ?_)
    · have hp1 : ¬ p.1 = true := fun z => c28 (b01.mpr z)
      rw [p_go_f hp1] at hg
      refine sp_go (h' := mh g M (sL σ) p.2.1 v 1 p.2.2) rfl (by show mh g M (sL σ) p.2.1 v (if p.1 = true then 0 else 1) p.2.2 = _; rw [if_neg hp1]) ?_
      have h59 := lpTw_w (a := p.2.1) (it := it) (v := v) (S := p.2.2) hn hM7 hM6 hM2 hG hO hpl (by rw [hR, ← hg]) X Y 1 (by omega)
      exact sp_go rfl rfl h59
    · have hp1 : p.1 = true := b01.mp c28
      obtain ⟨i1, i2⟩ := hinv hp1
      rw [p_go, if_pos hp1] at hg
      refine sp_go (h' := mh g M (sL σ) p.2.1 v 0 p.2.2) rfl (by show mh g M (sL σ) p.2.1 v (if p.1 = true then 0 else 1) p.2.2 = _; rw [if_pos hp1]) ?_
      refine rb_aload_n X (pc := 31) dX5_town_31 rfl rfl ?_
      refine rb_aload_n X (pc := 32) dX5_town_32 rfl rfl ?_
      refine rc_getI X (pc := 33) fX5_223 rb_ob9 rfl gp_8 dX5_town_33 ?_
      refine rc_callVi X (pc := 36) cvX5_byteAt mX5_226 rb_ob9 (qX5_byteAt hn (gp_7 hM7) gp_6 hpl) (by decide) rfl rfl (Nat.le_of_ble_eq_true rfl) dX5_town_36 ?_
      refine rb_bipush (v := 59) X (pc := 39) dX5_town_39 (by decide) ?_
      refine rb_icmp_ne X (pc := 41) (tgt := 59) dX5_town_41 (by decide) (fun c41 => ?_) (fun c41 => ?_)
      · have h3 : ¬ tS (M 6) (sL σ) p.2.1 = 3 := fun z => c41 (tb_s.mpr z)
        have h59 : rb_WP Z G 2 59 [.ref (rb_ad G 9 0), .int (nI it)] [] (mh g M (sL σ) p.2.1 v 0 p.2.2) := by
          by_cases h0 : tS (M 6) (sL σ) p.2.1 = 0
          · rw [if_pos h0] at hg
            exact lpTw_k hn hM7 hM6 hM2 hG hO hpl (tS_0.mp h0) hit (by rw [hR, ← hg]) X Y 1 (by omega)
          · rw [if_neg h0, if_neg h3] at hg
            exact lpTw_b hn hM7 hM6 hM2 hG hO hpl (Classical.byContradiction (fun z => h0 (tS_0.mpr z))) (by rw [hR, ← hg]) X Y 1 (by omega)
        exact sp_go rfl rfl h59
      · have h3 : tS (M 6) (sL σ) p.2.1 = 3 := tb_s.mp (by simpa using c41)
        have hlt := (tS_in h3 (by decide)).1
        have hN := tN_le (f := M 6) hpl
        have hNl := tN_lt (f := M 6) hlt
        rw [if_neg (by rw [h3]; decide), if_pos h3] at hg
        obtain ⟨m2, hm2, e2⟩ := p_step (f := M 6) (n := sL σ) (m := m) (it := it + 1) (a := tN (M 6) (sL σ) p.2.1) (T := p.2.2) (by omega) (by omega) hn hN.2
        have hge := p_item_ge (f := M 6) (T := p.2.2) hN.2
        have hgo := (p_item_g (f := M 6) hN.2 hpo).2
        refine rb_aload_n X (pc := 44) dX5_town_44 rfl rfl ?_
        refine rb_iconst (v := 1) X (pc := 45) dX5_town_45 (by decide) ?_
        refine rc_callVv X (pc := 46) cvX5_must mX5_249 rb_ob9 (qMt hn hM7 hpl) (by decide) rfl rfl (Nat.le_of_ble_eq_true rfl) dX5_town_46 ?_
        refine rb_aload_n X (pc := 49) dX5_town_49 rfl rfl ?_
        refine rc_callV X (pc := 50) cvX5_item mX5_307 rb_ob9 (qX5_item hn hM7 hN.2 hpo) (by decide) rfl rfl (Nat.le_of_ble_eq_true rfl) dX5_town_50 (fun r_50 h_50 p_50 => ?_)
        obtain ⟨rfl, v2, rfl⟩ := p_50
        refine sp_goS (S' := []) rfl ?_
        refine rb_iinc X (pc := 53) dX5_town_53 rfl (sp_inc _) (by decide) rfl rfl ?_
        refine rb_goto X (pc := 56) (tgt := 24) dX5_town_56 (by decide) ?_
        exact sp_go rfl rfl (ih (it + 1) m2 _ v2 hge.2 hgo (by have := hge.1; omega) (by omega) (fun z => by
          rcases hm2 with w | w
          · exact ⟨by omega, by have := hge.1; omega⟩
          · exact absurd z (p_item_adv w)) (by rw [← e2]; exact hg))
set_option maxRecDepth 100000 in
set_option maxHeartbeats 1000000 in
theorem qX5_town {G : rb_G} {σ : Sg} {h : rb_H} (hS : okS σ) (hM : MI σ h) : rb_M G 8 yX5_town cX5_town 2 (some .int) [.ref (rb_ad G 9 0)] (h) (PM h (r_town σ)) := by
  refine rb_meth (L := [.ref (rb_ad G 9 0), .null]) (by decide) (Nat.le_of_ble_eq_true rfl) rfl (fun Z X Y => ?_)
  have X : rb_CX Z G cX5_town 2 RX5 8 := X
  obtain ⟨h, rfl⟩ : ∃ h0, h = ms h0 (sT σ) := ⟨h, (rb_row_self hM.1).symm⟩
  have hok := hS.1
  have hn4 := hok.1
  have hn10 := hok.2.1
  refine rb_aload_n X (pc := 0) dX5_town_0 rfl rfl ?_
  refine rc_callVv X (pc := 1) cvX5_saves mX5_304 rb_ob9 qSv (by decide) rfl rfl (Nat.le_of_ble_eq_true rfl) dX5_town_1 ?_
  refine sp_go rfl mp_in ?_
  have hn : sL σ ≤ 120 := hS.2.2.2.1
  have hM7 : (rb_row h 9 2 (enc (sT σ))).1 9 7 0 = nI (sL σ) := hM.2.2.2.2.2.1
  have hM6 : (rb_row h 9 2 (enc (sT σ))).1 9 6 = sB σ := hM.2.2.2.2.1
  have hM2 : (rb_row h 9 2 (enc (sT σ))).1 9 2 = enc (sT σ) := rb_row_same
  have hG : ∀ (S : rb_T) (a t v w : Int32), MI (wT σ S) (mp (rb_row h 9 2 (enc (sT σ))) ((rb_row h 9 2 (enc (sT σ))).1 9) a t v w S) := fun S a t v w => MI_mp (by
    have z := MI_r (j := 2) (f := enc (sT σ)) frj_2 (MI_T hM S)
    rw [ms_ms, rb_row_sw (by decide)] at z
    exact z)
  have hO : ∀ (S : rb_T) (a t v w : Int32), rb_ot (ms h (sT σ)) (mp (rb_row h 9 2 (enc (sT σ))) ((rb_row h 9 2 (enc (sT σ))).1 9) a t v w S) := fun S a t v w => ot_mp (ot_l (ot_r ot_rf))
  generalize (rb_row h 9 2 (enc (sT σ))).1 9 = M at hM7 hM6 hM2 hG hO ⊢
  refine rb_aload_n X (pc := 4) dX5_town_4 rfl rfl ?_
  refine rb_iconst (v := 0) X (pc := 5) dX5_town_5 (by decide) ?_
  refine rc_put X (pc := 6) fX5_235 gX5_11 rb_ob9 rfl rfl rfl mp_11 dX5_town_6 ?_
  refine rb_aload_n X (pc := 9) dX5_town_9 rfl rfl ?_
  refine rb_iconst (v := 0) X (pc := 10) dX5_town_10 (by decide) ?_
  refine rc_put X (pc := 11) fX5_220 gX5_9 rb_ob9 rfl rfl rfl mp_9 dX5_town_11 ?_
  refine rb_aload_n X (pc := 14) dX5_town_14 rfl rfl ?_
  refine rc_callVv X (pc := 15) cvX5_token mX5_239 rb_ob9 (qX5_token (p := 0) hn hM7 (by omega)) (by decide) rfl rfl (Nat.le_of_ble_eq_true rfl) dX5_town_15 ?_
  refine rb_iconst (v := 1) X (pc := 18) dX5_town_18 (by decide) ?_
  refine rb_istore_n X (pc := 19) dX5_town_19 rfl (by decide) rfl rfl ?_
  have ha0 := (skp_le (P := tB (M 6)) (n := sL σ) (p := 0) (by omega)).2
  obtain ⟨m2, hm2, e2⟩ := p_step (f := M 6) (n := sL σ) (m := 120) (it := 1) (a := skp (tB (M 6)) (sL σ) 0) (T := sT σ) (by omega) (by omega) hn ha0
  have hge := p_item_ge (f := M 6) (T := sT σ) ha0
  have hgo := (p_item_g (f := M 6) ha0 hok).2
  have hR : k_town σ = p_go (M 6) (sL σ) m2 1 (p_item (M 6) (sL σ) (skp (tB (M 6)) (sL σ) 0) (sT σ)) := by rw [← e2, hM6]; rfl
  refine rb_aload_n X (pc := 20) dX5_town_20 rfl rfl ?_
  refine rc_callV X (pc := 21) cvX5_item mX5_307 rb_ob9 (qX5_item hn hM7 ha0 hok) (by decide) rfl rfl (Nat.le_of_ble_eq_true rfl) dX5_town_21 (fun r_21 h_21 p_21 => ?_)
  obtain ⟨rfl, v2, rfl⟩ := p_21
  refine sp_goS (S' := []) rfl ?_
  exact sp_go rfl rfl (lpX5_town_24 hn hM7 hM6 hM2 hG hO hR X Y (sL σ + 1) 1 m2 _ v2 hge.2 hgo (by omega) (by omega) (fun z => by
    rcases hm2 with w | w
    · exact ⟨by omega, by have := hge.1; omega⟩
    · exact absurd z (p_item_adv w)) rfl)
