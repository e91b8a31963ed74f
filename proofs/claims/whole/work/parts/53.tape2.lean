theorem weq_s {f : Nat → Int32} {a i m : Nat} : weq f a i (m + 1) = (weq f a i m && decide (f (a + m) = rb_chr i m)) := rfl
theorem weq_no {f : Nat → Int32} {a i m : Nat} (h : ¬ f (a + m) = rb_chr i m) : ∀ d, weq f a i (m + 1 + d) = false
  | 0 => by rw [Nat.add_zero, weq_s]; simp [h]
  | d + 1 => by rw [show m + 1 + (d + 1) = (m + 1 + d) + 1 from rfl, weq_s, weq_no h d]; rfl
set_option maxRecDepth 100000 in
set_option maxHeartbeats 1000000 in
theorem lpX2_isWord_28 {Z : rb_Z} {G : rb_G} {g : rb_H} {M : rb_T} {n a : Nat} (hn : n ≤ 120) (ha : a ≤ n) {i : Nat} (hi : i < 14) (hs : tS (M 0) n a = 1) (hl : tE (M 0) n a - a = rb_len.getD i 0) (X : rb_CX Z G cX2_isWord 3 RX2 4) (Y : rb_RT Z G (some .boolean) (rb_F (some (.int (if tW (M 0) n a i then 1 else 0))) (rb_st g 3 (hd M n a)))) : ∀ fu : Nat, ∀ m : Nat, m ≤ rb_len.getD i 0 → rb_len.getD i 0 + 1 ≤ m + fu → weq (M 0) a i m = true → rb_WP Z G 3 28 [.ref (rb_ad G 3 0), .ref (G.2.2.2.1 i), .int (nI m)] [] (rb_st g 3 (hd M n a)) := by
  intro fu
  induction fu with
  | zero => intro m hm hf hw; omega
  | succ fu ih =>
    intro m hm hf hw
    have hE := tE_le (f := M 0) ha
    have h31 := rb_len_lt hi
    refine rb_iload_n X (pc := 28) dX2_isWord_28 rfl rfl ?_
    refine rb_aload_n X (pc := 29) dX2_isWord_29 rfl rfl ?_
    refine rc_callTi X (pc := 30) cvJ0_length_8abf5 mX2_119 hi rfl (qJ0_length_8abf5 hi) (by decide) rfl rfl (Nat.le_of_ble_eq_true rfl) dX2_isWord_30 ?_
    refine rb_icmp_ge X (pc := 33) (tgt := 63) dX2_isWord_33 (by decide) (fun c33 => ?_) (fun c33 => ?_)
    · have hge := (sp_geI (n := rb_len.getD i 0) rfl (by omega) (by omega)).mp c33
      obtain rfl : m = rb_len.getD i 0 := by omega
      refine rb_iconst (v := 1) X (pc := 63) dX2_isWord_63 (by decide) ?_
      refine rb_zret (S := []) X (pc := 64) Y dX2_isWord_64 rfl ?_
      exact ⟨by rw [tW, hw]; simp [hs, hl], rfl⟩
    · have hlt : m < rb_len.getD i 0 := Nat.lt_of_not_le (fun w => c33 ((sp_geI (n := rb_len.getD i 0) rfl (by omega) (by omega)).mpr w))
      refine rb_aload_n X (pc := 36) dX2_isWord_36 rfl rfl ?_
      refine rc_getR X (pc := 37) fX2_11 rb_ob3 rfl dX2_isWord_37 ?_
      refine rb_aload_n X (pc := 40) dX2_isWord_40 rfl rfl ?_
      refine rc_getI X (pc := 41) fX2_22 rb_ob3 rfl d4_3 dX2_isWord_41 ?_
      refine rb_iload_n X (pc := 44) dX2_isWord_44 rfl rfl ?_
      refine rb_iadd X (pc := 45) dX2_isWord_45 ?_
      refine rc_iald X (pc := 46) (a + m) rb_ar3_0 d4_0 (by rw [nI_add]) (by omega) dX2_isWord_46 ?_
      refine rb_aload_n X (pc := 47) dX2_isWord_47 rfl rfl ?_
      refine rb_iload_n X (pc := 48) dX2_isWord_48 rfl rfl ?_
      refine rc_callTi X (pc := 49) cvJ0_charAt_5068e mX2_124 hi rfl (qJ0_charAt_5068e hi hlt) (by decide) rfl rfl (Nat.le_of_ble_eq_true rfl) dX2_isWord_49 ?_
      refine rb_icmp_eq X (pc := 52) (tgt := 57) dX2_isWord_52 (by decide) (fun c52 => ?_) (fun c52 => ?_)
      · refine rb_iinc X (pc := 57) dX2_isWord_57 rfl (sp_inc _) (by decide) rfl rfl ?_
        refine rb_goto X (pc := 60) (tgt := 28) dX2_isWord_60 (by decide) ?_
        exact sp_go rfl rfl (ih (m + 1) (by omega) (by omega) (by rw [weq_s, hw]; simp [c52]))
      · refine rb_iconst (v := 0) X (pc := 55) dX2_isWord_55 (by decide) ?_
        refine rb_zret (S := []) X (pc := 56) Y dX2_isWord_56 rfl ?_
        have e := weq_no c52 (rb_len.getD i 0 - (m + 1))
        rw [show m + 1 + (rb_len.getD i 0 - (m + 1)) = rb_len.getD i 0 by omega] at e
        exact ⟨by rw [tW, e]; simp, rfl⟩
set_option maxRecDepth 100000 in
set_option maxHeartbeats 1000000 in
theorem qX2_isWord {G : rb_G} {g : rb_H} {M : rb_T} {n a : Nat} (hn : n ≤ 120) (ha : a ≤ n) {i : Nat} (hi : i < 14) : rb_M G 4 yX2_isWord cX2_isWord 3 (some .boolean) [.ref (rb_ad G 3 0), .ref (G.2.2.2.1 i)] (rb_st g 3 (hd M n a)) (rb_F (some (.int (if tW (M 0) n a i then 1 else 0))) (rb_st g 3 (hd M n a))) := by
  refine rb_meth (L := [.ref (rb_ad G 3 0), .ref (G.2.2.2.1 i), .null]) (by decide) (Nat.le_of_ble_eq_true rfl) rfl (fun Z X Y => ?_)
  have X : rb_CX Z G cX2_isWord 3 RX2 4 := X
  have hE := tE_le (f := M 0) ha
  have h31 := rb_len_lt hi
  refine rb_aload_n X (pc := 0) dX2_isWord_0 rfl rfl ?_
  refine rc_getI X (pc := 1) fX2_19 rb_ob3 rfl d4_2 dX2_isWord_1 ?_
  refine rb_iconst (v := 1) X (pc := 4) dX2_isWord_4 (by decide) ?_
  refine rb_icmp_ne X (pc := 5) (tgt := 24) dX2_isWord_5 (by decide) (fun c5 => ?_) (fun c5 => ?_)
  · refine rb_iconst (v := 0) X (pc := 24) dX2_isWord_24 (by decide) ?_
    refine rb_zret (S := []) X (pc := 25) Y dX2_isWord_25 rfl ?_
    exact ⟨by rw [tW]; first | (rw [decide_eq_false c5]; rfl) | (rw [decide_eq_false hl]; simp), rfl⟩
  · have hs : tS (M 0) n a = 1 := by simpa using c5
    refine rb_aload_n X (pc := 8) dX2_isWord_8 rfl rfl ?_
    refine rc_getI X (pc := 9) fX2_25 rb_ob3 rfl d4_4 dX2_isWord_9 ?_
    refine rb_aload_n X (pc := 12) dX2_isWord_12 rfl rfl ?_
    refine rc_getI X (pc := 13) fX2_22 rb_ob3 rfl d4_3 dX2_isWord_13 ?_
    refine rb_isub X (pc := 16) dX2_isWord_16 ?_
    refine rb_aload_n X (pc := 17) dX2_isWord_17 rfl rfl ?_
    refine rc_callTi X (pc := 18) cvJ0_length_8abf5 mX2_119 hi rfl (qJ0_length_8abf5 hi) (by decide) rfl rfl (Nat.le_of_ble_eq_true rfl) dX2_isWord_18 ?_
    rw [pk_sub hE.1]
    refine rb_icmp_eq X (pc := 21) (tgt := 26) dX2_isWord_21 (by decide) (fun c21 => ?_) (fun c21 => ?_)
    · have hl : tE (M 0) n a - a = rb_len.getD i 0 := (nI_eq (by omega) (by omega)).mp c21
      refine rb_iconst (v := 0) X (pc := 26) dX2_isWord_26 (by decide) ?_
      refine rb_istore_n X (pc := 27) dX2_isWord_27 rfl (by decide) rfl rfl ?_
      exact sp_go rfl rfl (lpX2_isWord_28 hn ha hi hs hl X Y (rb_len.getD i 0 + 1) 0 (by omega) (by omega) rfl)
    · have hl : ¬ tE (M 0) n a - a = rb_len.getD i 0 := fun z => c21 (by rw [z])
      refine rb_iconst (v := 0) X (pc := 24) dX2_isWord_24 (by decide) ?_
      refine rb_zret (S := []) X (pc := 25) Y dX2_isWord_25 rfl ?_
      exact ⟨by rw [tW]; first | (rw [decide_eq_false c5]; rfl) | (rw [decide_eq_false hl]; simp), rfl⟩
set_option maxRecDepth 100000 in
set_option maxHeartbeats 1000000 in
theorem qX2_isNumber {G : rb_G} {g : rb_H} {M : rb_T} {n a : Nat} (m : Int32) : rb_M G 0 yX2_isNumber cX2_isNumber 2 (some .boolean) [.ref (rb_ad G 3 0), .int m] (rb_st g 3 (hd M n a)) (rb_F (some (.int (if tM (M 0) n a m then 1 else 0))) (rb_st g 3 (hd M n a))) := by
  refine rb_meth (L := [.ref (rb_ad G 3 0), .int m]) (by decide) (Nat.le_of_ble_eq_true rfl) rfl (fun Z X Y => ?_)
  have X : rb_CX Z G cX2_isNumber 2 RX2 0 := X
  refine rb_aload_n X (pc := 0) dX2_isNumber_0 rfl rfl ?_
  refine rc_getI X (pc := 1) fX2_19 rb_ob3 rfl d4_2 dX2_isNumber_1 ?_
  refine rb_iconst (v := 2) X (pc := 4) dX2_isNumber_4 (by decide) ?_
  refine rb_icmp_ne X (pc := 5) (tgt := 20) dX2_isNumber_5 (by decide) (fun c5 => ?_) (fun c5 => ?_)
  · refine rb_iconst (v := 0) X (pc := 20) dX2_isNumber_20 (by decide) ?_
    refine rb_zret (S := []) X (pc := 21) Y dX2_isNumber_21 rfl ?_
    exact ⟨by simp_all [tM, Int32.not_lt, Int32.not_le], rfl⟩
  · refine rb_aload_n X (pc := 8) dX2_isNumber_8 rfl rfl ?_
    refine rc_getI X (pc := 9) fX2_28 rb_ob3 rfl d4_5 dX2_isNumber_9 ?_
    refine rb_iload_n X (pc := 12) dX2_isNumber_12 rfl rfl ?_
    refine rb_icmp_gt X (pc := 13) (tgt := 20) dX2_isNumber_13 (by decide) (fun c13 => ?_) (fun c13 => ?_)
    · refine rb_iconst (v := 0) X (pc := 20) dX2_isNumber_20 (by decide) ?_
      refine rb_zret (S := []) X (pc := 21) Y dX2_isNumber_21 rfl ?_
      exact ⟨by simp_all [tM, Int32.not_lt, Int32.not_le], rfl⟩
    · refine rb_iconst (v := 1) X (pc := 16) dX2_isNumber_16 (by decide) ?_
      refine rb_goto X (pc := 17) (tgt := 21) dX2_isNumber_17 (by decide) ?_
      refine rb_zret (S := []) X (pc := 21) Y dX2_isNumber_21 rfl ?_
      exact ⟨by simp_all [tM, Int32.not_lt, Int32.not_le], rfl⟩
