set_option maxRecDepth 100000 in
set_option maxHeartbeats 1000000 in
theorem qX2_sortOf {G : rb_G} {h : rb_H} (b : Int32) : rb_M G 0 yX2_sortOf cX2_sortOf 1 (some .int) [.int b] (h) (rb_F (some (.int (ts1 b))) (h)) := by
  refine rb_meth (L := [.int b]) (by decide) (Nat.le_of_ble_eq_true rfl) rfl (fun Z X Y => ?_)
  have X : rb_CX Z G cX2_sortOf 1 RX2 0 := X
  refine rb_iload_n X (pc := 0) dX2_sortOf_0 rfl rfl ?_
  refine rb_bipush (v := 97) X (pc := 1) dX2_sortOf_1 (by decide) ?_
  refine rb_icmp_lt X (pc := 3) (tgt := 14) dX2_sortOf_3 (by decide) (fun c3 => ?_) (fun c3 => ?_)
  · refine rb_iload_n X (pc := 14) dX2_sortOf_14 rfl rfl ?_
    refine rb_bipush (v := 48) X (pc := 15) dX2_sortOf_15 (by decide) ?_
    refine rb_icmp_lt X (pc := 17) (tgt := 28) dX2_sortOf_17 (by decide) (fun c17 => ?_) (fun c17 => ?_)
    · refine rb_iload_n X (pc := 28) dX2_sortOf_28 rfl rfl ?_
      refine rb_bipush (v := 59) X (pc := 29) dX2_sortOf_29 (by decide) ?_
      refine rb_icmp_ne X (pc := 31) (tgt := 38) dX2_sortOf_31 (by decide) (fun c31 => ?_) (fun c31 => ?_)
      · refine rb_iload_n X (pc := 38) dX2_sortOf_38 rfl rfl ?_
        refine rb_bipush (v := 32) X (pc := 39) dX2_sortOf_39 (by decide) ?_
        refine rb_icmp_ne X (pc := 41) (tgt := 48) dX2_sortOf_41 (by decide) (fun c41 => ?_) (fun c41 => ?_)
        · refine rb_iconst (v := 5) X (pc := 48) dX2_sortOf_48 (by decide) ?_
          refine rb_iret (S := []) X (pc := 49) Y dX2_sortOf_49 ?_
          first
          | exact ⟨rfl, rfl⟩
          | (refine ⟨?_, rfl⟩; simp only [ts1, ← Int32.not_lt, *, not_true_eq_false, not_false_eq_true, and_true, and_false, false_and, true_and, reduceIte, and_self]; done)
        · have c41 : b = 32 := by simpa using c41
          subst c41
          refine rb_iconst (v := 4) X (pc := 44) dX2_sortOf_44 (by decide) ?_
          refine rb_goto X (pc := 45) (tgt := 49) dX2_sortOf_45 (by decide) ?_
          refine rb_iret (S := []) X (pc := 49) Y dX2_sortOf_49 ?_
          first
          | exact ⟨rfl, rfl⟩
          | (refine ⟨?_, rfl⟩; simp only [ts1, ← Int32.not_lt, *, not_true_eq_false, not_false_eq_true, and_true, and_false, false_and, true_and, reduceIte, and_self]; done)
      · have c31 : b = 59 := by simpa using c31
        subst c31
        refine rb_iconst (v := 3) X (pc := 34) dX2_sortOf_34 (by decide) ?_
        refine rb_goto X (pc := 35) (tgt := 49) dX2_sortOf_35 (by decide) ?_
        refine rb_iret (S := []) X (pc := 49) Y dX2_sortOf_49 ?_
        first
        | exact ⟨rfl, rfl⟩
        | (refine ⟨?_, rfl⟩; simp only [ts1, ← Int32.not_lt, *, not_true_eq_false, not_false_eq_true, and_true, and_false, false_and, true_and, reduceIte, and_self]; done)
    · refine rb_iload_n X (pc := 20) dX2_sortOf_20 rfl rfl ?_
      refine rb_bipush (v := 57) X (pc := 21) dX2_sortOf_21 (by decide) ?_
      refine rb_icmp_gt X (pc := 23) (tgt := 28) dX2_sortOf_23 (by decide) (fun c23 => ?_) (fun c23 => ?_)
      · refine rb_iload_n X (pc := 28) dX2_sortOf_28 rfl rfl ?_
        refine rb_bipush (v := 59) X (pc := 29) dX2_sortOf_29 (by decide) ?_
        refine rb_icmp_ne X (pc := 31) (tgt := 38) dX2_sortOf_31 (by decide) (fun c31 => ?_) (fun c31 => ?_)
        · refine rb_iload_n X (pc := 38) dX2_sortOf_38 rfl rfl ?_
          refine rb_bipush (v := 32) X (pc := 39) dX2_sortOf_39 (by decide) ?_
          refine rb_icmp_ne X (pc := 41) (tgt := 48) dX2_sortOf_41 (by decide) (fun c41 => ?_) (fun c41 => ?_)
          · refine rb_iconst (v := 5) X (pc := 48) dX2_sortOf_48 (by decide) ?_
            refine rb_iret (S := []) X (pc := 49) Y dX2_sortOf_49 ?_
            first
            | exact ⟨rfl, rfl⟩
            | (refine ⟨?_, rfl⟩; simp only [ts1, ← Int32.not_lt, *, not_true_eq_false, not_false_eq_true, and_true, and_false, false_and, true_and, reduceIte, and_self]; done)
          · have c41 : b = 32 := by simpa using c41
            subst c41
            refine rb_iconst (v := 4) X (pc := 44) dX2_sortOf_44 (by decide) ?_
            refine rb_goto X (pc := 45) (tgt := 49) dX2_sortOf_45 (by decide) ?_
            refine rb_iret (S := []) X (pc := 49) Y dX2_sortOf_49 ?_
            first
            | exact ⟨rfl, rfl⟩
            | (refine ⟨?_, rfl⟩; simp only [ts1, ← Int32.not_lt, *, not_true_eq_false, not_false_eq_true, and_true, and_false, false_and, true_and, reduceIte, and_self]; done)
        · have c31 : b = 59 := by simpa using c31
          subst c31
          refine rb_iconst (v := 3) X (pc := 34) dX2_sortOf_34 (by decide) ?_
          refine rb_goto X (pc := 35) (tgt := 49) dX2_sortOf_35 (by decide) ?_
          refine rb_iret (S := []) X (pc := 49) Y dX2_sortOf_49 ?_
          first
          | exact ⟨rfl, rfl⟩
          | (refine ⟨?_, rfl⟩; simp only [ts1, ← Int32.not_lt, *, not_true_eq_false, not_false_eq_true, and_true, and_false, false_and, true_and, reduceIte, and_self]; done)
      · refine rb_iconst (v := 2) X (pc := 26) dX2_sortOf_26 (by decide) ?_
        refine rb_iret (S := []) X (pc := 27) Y dX2_sortOf_27 ?_
        first
        | exact ⟨rfl, rfl⟩
        | (refine ⟨?_, rfl⟩; simp only [ts1, ← Int32.not_lt, *, not_true_eq_false, not_false_eq_true, and_true, and_false, false_and, true_and, reduceIte, and_self]; done)
  · refine rb_iload_n X (pc := 6) dX2_sortOf_6 rfl rfl ?_
    refine rb_bipush (v := 122) X (pc := 7) dX2_sortOf_7 (by decide) ?_
    refine rb_icmp_gt X (pc := 9) (tgt := 14) dX2_sortOf_9 (by decide) (fun c9 => ?_) (fun c9 => ?_)
    · refine rb_iload_n X (pc := 14) dX2_sortOf_14 rfl rfl ?_
      refine rb_bipush (v := 48) X (pc := 15) dX2_sortOf_15 (by decide) ?_
      refine rb_icmp_lt X (pc := 17) (tgt := 28) dX2_sortOf_17 (by decide) (fun c17 => ?_) (fun c17 => ?_)
      · refine rb_iload_n X (pc := 28) dX2_sortOf_28 rfl rfl ?_
        refine rb_bipush (v := 59) X (pc := 29) dX2_sortOf_29 (by decide) ?_
        refine rb_icmp_ne X (pc := 31) (tgt := 38) dX2_sortOf_31 (by decide) (fun c31 => ?_) (fun c31 => ?_)
        · refine rb_iload_n X (pc := 38) dX2_sortOf_38 rfl rfl ?_
          refine rb_bipush (v := 32) X (pc := 39) dX2_sortOf_39 (by decide) ?_
          refine rb_icmp_ne X (pc := 41) (tgt := 48) dX2_sortOf_41 (by decide) (fun c41 => ?_) (fun c41 => ?_)
          · refine rb_iconst (v := 5) X (pc := 48) dX2_sortOf_48 (by decide) ?_
            refine rb_iret (S := []) X (pc := 49) Y dX2_sortOf_49 ?_
            first
            | exact ⟨rfl, rfl⟩
            | (refine ⟨?_, rfl⟩; simp only [ts1, ← Int32.not_lt, *, not_true_eq_false, not_false_eq_true, and_true, and_false, false_and, true_and, reduceIte, and_self]; done)
          · have c41 : b = 32 := by simpa using c41
            subst c41
            refine rb_iconst (v := 4) X (pc := 44) dX2_sortOf_44 (by decide) ?_
            refine rb_goto X (pc := 45) (tgt := 49) dX2_sortOf_45 (by decide) ?_
            refine rb_iret (S := []) X (pc := 49) Y dX2_sortOf_49 ?_
            first
            | exact ⟨rfl, rfl⟩
            | (refine ⟨?_, rfl⟩; simp only [ts1, ← Int32.not_lt, *, not_true_eq_false, not_false_eq_true, and_true, and_false, false_and, true_and, reduceIte, and_self]; done)
        · have c31 : b = 59 := by simpa using c31
          subst c31
          refine rb_iconst (v := 3) X (pc := 34) dX2_sortOf_34 (by decide) ?_
          refine rb_goto X (pc := 35) (tgt := 49) dX2_sortOf_35 (by decide) ?_
          refine rb_iret (S := []) X (pc := 49) Y dX2_sortOf_49 ?_
          first
          | exact ⟨rfl, rfl⟩
          | (refine ⟨?_, rfl⟩; simp only [ts1, ← Int32.not_lt, *, not_true_eq_false, not_false_eq_true, and_true, and_false, false_and, true_and, reduceIte, and_self]; done)
      · refine rb_iload_n X (pc := 20) dX2_sortOf_20 rfl rfl ?_
        refine rb_bipush (v := 57) X (pc := 21) dX2_sortOf_21 (by decide) ?_
        refine rb_icmp_gt X (pc := 23) (tgt := 28) dX2_sortOf_23 (by decide) (fun c23 => ?_) (fun c23 => ?_)
        · refine rb_iload_n X (pc := 28) dX2_sortOf_28 rfl rfl ?_
          refine rb_bipush (v := 59) X (pc := 29) dX2_sortOf_29 (by decide) ?_
          refine rb_icmp_ne X (pc := 31) (tgt := 38) dX2_sortOf_31 (by decide) (fun c31 => ?_) (fun c31 => ?_)
          · refine rb_iload_n X (pc := 38) dX2_sortOf_38 rfl rfl ?_
            refine rb_bipush (v := 32) X (pc := 39) dX2_sortOf_39 (by decide) ?_
            refine rb_icmp_ne X (pc := 41) (tgt := 48) dX2_sortOf_41 (by decide) (fun c41 => ?_) (fun c41 => ?_)
            · refine rb_iconst (v := 5) X (pc := 48) dX2_sortOf_48 (by decide) ?_
              refine rb_iret (S := []) X (pc := 49) Y dX2_sortOf_49 ?_
              first
              | exact ⟨rfl, rfl⟩
              | (refine ⟨?_, rfl⟩; simp only [ts1, ← Int32.not_lt, *, not_true_eq_false, not_false_eq_true, and_true, and_false, false_and, true_and, reduceIte, and_self]; done)
            · have c41 : b = 32 := by simpa using c41
              subst c41
              refine rb_iconst (v := 4) X (pc := 44) dX2_sortOf_44 (by decide) ?_
              refine rb_goto X (pc := 45) (tgt := 49) dX2_sortOf_45 (by decide) ?_
              refine rb_iret (S := []) X (pc := 49) Y dX2_sortOf_49 ?_
              first
              | exact ⟨rfl, rfl⟩
              | (refine ⟨?_, rfl⟩; simp only [ts1, ← Int32.not_lt, *, not_true_eq_false, not_false_eq_true, and_true, and_false, false_and, true_and, reduceIte, and_self]; done)
          · have c31 : b = 59 := by simpa using c31
            subst c31
            refine rb_iconst (v := 3) X (pc := 34) dX2_sortOf_34 (by decide) ?_
            refine rb_goto X (pc := 35) (tgt := 49) dX2_sortOf_35 (by decide) ?_
            refine rb_iret (S := []) X (pc := 49) Y dX2_sortOf_49 ?_
            first
            | exact ⟨rfl, rfl⟩
            | (refine ⟨?_, rfl⟩; simp only [ts1, ← Int32.not_lt, *, not_true_eq_false, not_false_eq_true, and_true, and_false, false_and, true_and, reduceIte, and_self]; done)
        · refine rb_iconst (v := 2) X (pc := 26) dX2_sortOf_26 (by decide) ?_
          refine rb_iret (S := []) X (pc := 27) Y dX2_sortOf_27 ?_
          first
          | exact ⟨rfl, rfl⟩
          | (refine ⟨?_, rfl⟩; simp only [ts1, ← Int32.not_lt, *, not_true_eq_false, not_false_eq_true, and_true, and_false, false_and, true_and, reduceIte, and_self]; done)
    · refine rb_iconst (v := 1) X (pc := 12) dX2_sortOf_12 (by decide) ?_
      refine rb_iret (S := []) X (pc := 13) Y dX2_sortOf_13 ?_
      first
      | exact ⟨rfl, rfl⟩
      | (refine ⟨?_, rfl⟩; simp only [ts1, ← Int32.not_lt, *, not_true_eq_false, not_false_eq_true, and_true, and_false, false_and, true_and, reduceIte, and_self]; done)
theorem tE_go {f : Nat → Int32} {n a m : Nat} (h : a < n) (hl : ts1 (f a) = 1 ∨ ts1 (f a) = 2) (e : skp (fun k => decide (ts1 (f k) = ts1 (f a))) n (a + 1) = skp (fun k => decide (ts1 (f k) = ts1 (f a))) n (a + m + 1)) (hx : ¬ (a + m + 1 < n ∧ ts1 (f (a + m + 1)) = ts1 (f a))) : tE f n a = a + m + 1 := by
  unfold tE
  rw [if_pos h, if_pos hl, e, skp_f (fun z => hx ⟨z.1, of_decide_eq_true z.2⟩)]
theorem tE_1 {f : Nat → Int32} {n a : Nat} (h : a < n) (hl : ¬ (ts1 (f a) = 1 ∨ ts1 (f a) = 2)) : tE f n a = a + 1 := by
  unfold tE
  rw [if_pos h, if_neg hl]
theorem tV_2 {f : Nat → Int32} {n a : Nat} (h : a < n) (e : ts1 (f a) = 2) : tV f n a = tVf f a (tE f n a - a) := by
  unfold tV tS
  rw [if_pos h, if_pos e]
theorem tV_0 {f : Nat → Int32} {n a : Nat} (h : a < n) (e : ¬ ts1 (f a) = 2) : tV f n a = 0 := by
  unfold tV tS
  rw [if_pos h, if_neg e]
theorem hd_e {M : rb_T} {n a e : Nat} {s v : Int32} (h1 : s = tS (M 0) n a) (h2 : e = tE (M 0) n a) (h3 : v = tV (M 0) n a) : h4 M s (nI a) (nI e) v = hd M n a := by subst h1 h2 h3; rfl
set_option maxRecDepth 100000 in
set_option maxHeartbeats 1000000 in
theorem lpX2_nextToken_108 {Z : rb_Z} {G : rb_G} {g : rb_H} {M : rb_T} {n : Nat} (hn : n ≤ 120) (hM : M 1 0 = nI n) {a : Nat} (ha : a < n) (X : rb_CX Z G cX2_nextToken 2 RX2 1) (Y : rb_RT Z G none (rb_F none (rb_st g 3 (hd M n a)))) : ∀ fu : Nat, ∀ m : Nat, a + m < n → n + 1 ≤ a + m + fu → (m = 0 ∨ (ts1 (M 0 a) = 1 ∨ ts1 (M 0 a) = 2)) → skp (fun k => decide (ts1 (M 0 k) = ts1 (M 0 a))) n (a + 1) = skp (fun k => decide (ts1 (M 0 k) = ts1 (M 0 a))) n (a + m + 1) → rb_WP Z G 2 108 [.ref (rb_ad G 3 0), .int (if ts1 (M 0 a) = 1 ∨ ts1 (M 0 a) = 2 then 1 else 0)] [] (rb_st g 3 (h4 M (ts1 (M 0 a)) (nI a) (nI (a + m)) (if ts1 (M 0 a) = 2 then tVf (M 0) a m else 0))) := by
  intro fu
  induction fu with
  | zero => intro m hm hf hlg he; omega
  | succ fu ih =>
    intro m hm hf hlg he
    refine rb_aload_n X (pc := 108) dX2_nextToken_108 rfl rfl ?_
    refine rc_getI X (pc := 109) fX2_19 rb_ob3 rfl g4_2 dX2_nextToken_109 ?_
    refine rb_iconst (v := 2) X (pc := 112) dX2_nextToken_112 (by decide) ?_
    refine rb_icmp_ne X (pc := 113) (tgt := 146) dX2_nextToken_113 (by decide) (fun c113 => ?_) (fun c113 => ?_)
    · rw [if_neg c113]
      refine rb_aload_n X (pc := 146) dX2_nextToken_146 rfl rfl ?_
      refine rb_dup X (pc := 147) dX2_nextToken_147 rfl ?_
      refine rc_getI X (pc := 148) fX2_25 rb_ob3 rfl g4_4 dX2_nextToken_148 ?_
      refine rb_iconst (v := 1) X (pc := 151) dX2_nextToken_151 (by decide) ?_
      refine rb_iadd X (pc := 152) dX2_nextToken_152 ?_
      refine rc_put X (pc := 153) fX2_25 gX2_4 rb_ob3 rfl rfl rfl p4_4i dX2_nextToken_153 ?_
      refine rb_iload_n X (pc := 156) dX2_nextToken_156 rfl rfl ?_
      refine rb_if_eq X (pc := 157) (tgt := 190) dX2_nextToken_157 (by decide) (fun c157 => ?_) (fun c157 => ?_)
      · (try simp only [sp_b0, Classical.not_not] at c157)
        have hE : tE (M 0) n a = a + m + 1 := by rw [hlg.resolve_right c157]; exact tE_1 ha c157
        refine rb_vret (S := []) X (pc := 190) Y dX2_nextToken_190 ?_
        refine ⟨rfl, ?_⟩
        first
        | (have hV := tV_0 (n := n) ha c113; exact congrArg (rb_st g 3) (hd_e (tS_lt ha).symm hE.symm hV.symm))
        | (have hV := tV_2 (n := n) ha c113; rw [hE, show a + m + 1 - a = m + 1 by omega] at hV; exact congrArg (rb_st g 3) (hd_e (tS_lt ha).symm hE.symm hV.symm))
      · (try simp only [sp_b0, Classical.not_not] at c157)
        refine rb_aload_n X (pc := 160) dX2_nextToken_160 rfl rfl ?_
        refine rc_getI X (pc := 161) fX2_25 rb_ob3 rfl g4_4 dX2_nextToken_161 ?_
        refine rb_aload_n X (pc := 164) dX2_nextToken_164 rfl rfl ?_
        refine rc_getI X (pc := 165) fX2_15 rb_ob3 rfl (g4_1 hM) dX2_nextToken_165 ?_
        refine rb_icmp_ge X (pc := 168) (tgt := 190) dX2_nextToken_168 (by decide) (fun c168 => ?_) (fun c168 => ?_)
        · have hge := (sp_geI (n := n) rfl (by omega) (by omega)).mp c168
          have hE := tE_go ha c157 he (fun z => absurd z.1 (by omega))
          refine rb_vret (S := []) X (pc := 190) Y dX2_nextToken_190 ?_
          refine ⟨rfl, ?_⟩
          first
          | (have hV := tV_0 (n := n) ha c113; exact congrArg (rb_st g 3) (hd_e (tS_lt ha).symm hE.symm hV.symm))
          | (have hV := tV_2 (n := n) ha c113; rw [hE, show a + m + 1 - a = m + 1 by omega] at hV; exact congrArg (rb_st g 3) (hd_e (tS_lt ha).symm hE.symm hV.symm))
        · have hlt : a + m + 1 < n := Nat.lt_of_not_le (fun w => c168 ((sp_geI (n := n) rfl (by omega) (by omega)).mpr w))
          refine rb_aload_n X (pc := 171) dX2_nextToken_171 rfl rfl ?_
          refine rc_getR X (pc := 172) fX2_11 rb_ob3 rfl dX2_nextToken_172 ?_
          refine rb_aload_n X (pc := 175) dX2_nextToken_175 rfl rfl ?_
          refine rc_getI X (pc := 176) fX2_25 rb_ob3 rfl g4_4 dX2_nextToken_176 ?_
          refine rc_iald X (pc := 179) _ rb_ar3_0 g4_0 rfl (by omega) dX2_nextToken_179 ?_
          refine rc_callSi X (pc := 180) cvX2_sortOf mX2_128 (qX2_sortOf _) (by decide) rfl rfl (Nat.le_of_ble_eq_true rfl) dX2_nextToken_180 ?_
          refine rb_aload_n X (pc := 183) dX2_nextToken_183 rfl rfl ?_
          refine rc_getI X (pc := 184) fX2_19 rb_ob3 rfl g4_2 dX2_nextToken_184 ?_
          refine rb_icmp_eq X (pc := 187) (tgt := 108) dX2_nextToken_187 (by decide) (fun c187 => ?_) (fun c187 => ?_)
          · have he2 := he.trans (skp_t hlt (decide_eq_true c187))
            first
            | exact sp_go rfl (by rw [if_pos c113]; rfl) (ih (m + 1) (by omega) (by omega) (Or.inr c157) he2)
            | exact sp_go rfl (by rw [if_neg c113]; rfl) (ih (m + 1) (by omega) (by omega) (Or.inr c157) he2)
          · have hE := tE_go ha c157 he (fun z => c187 z.2)
            refine rb_vret (S := []) X (pc := 190) Y dX2_nextToken_190 ?_
            refine ⟨rfl, ?_⟩
            first
            | (have hV := tV_0 (n := n) ha c113; exact congrArg (rb_st g 3) (hd_e (tS_lt ha).symm hE.symm hV.symm))
            | (have hV := tV_2 (n := n) ha c113; rw [hE, show a + m + 1 - a = m + 1 by omega] at hV; exact congrArg (rb_st g 3) (hd_e (tS_lt ha).symm hE.symm hV.symm))
    · have c113 : ts1 (M 0 a) = 2 := by simpa using c113
      rw [if_pos c113]
      refine rb_aload_n X (pc := 116) dX2_nextToken_116 rfl rfl ?_
      refine rb_sipush (v := 1000) X (pc := 117) dX2_nextToken_117 (by decide) ?_
      refine rb_bipush (v := 10) X (pc := 120) dX2_nextToken_120 (by decide) ?_
      refine rb_aload_n X (pc := 122) dX2_nextToken_122 rfl rfl ?_
      refine rc_getI X (pc := 123) fX2_28 rb_ob3 rfl g4_5 dX2_nextToken_123 ?_
      refine rb_imul X (pc := 126) dX2_nextToken_126 ?_
      refine rb_aload_n X (pc := 127) dX2_nextToken_127 rfl rfl ?_
      refine rc_getR X (pc := 128) fX2_11 rb_ob3 rfl dX2_nextToken_128 ?_
      refine rb_aload_n X (pc := 131) dX2_nextToken_131 rfl rfl ?_
      refine rc_getI X (pc := 132) fX2_25 rb_ob3 rfl g4_4 dX2_nextToken_132 ?_
      refine rc_iald X (pc := 135) _ rb_ar3_0 g4_0 rfl (by omega) dX2_nextToken_135 ?_
      refine rb_iadd X (pc := 136) dX2_nextToken_136 ?_
      refine rb_bipush (v := 48) X (pc := 137) dX2_nextToken_137 (by decide) ?_
      refine rb_isub X (pc := 139) dX2_nextToken_139 ?_
      refine rc_mmin X (pc := 140) mX2_131 (by decide) (Nat.le_of_ble_eq_true rfl) dX2_nextToken_140 ?_
      refine rc_put X (pc := 143) fX2_28 gX2_5 rb_ob3 rfl rfl rfl p4_5 dX2_nextToken_143 ?_
      refine rb_aload_n X (pc := 146) dX2_nextToken_146 rfl rfl ?_
      refine rb_dup X (pc := 147) dX2_nextToken_147 rfl ?_
      refine rc_getI X (pc := 148) fX2_25 rb_ob3 rfl g4_4 dX2_nextToken_148 ?_
      refine rb_iconst (v := 1) X (pc := 151) dX2_nextToken_151 (by decide) ?_
      refine rb_iadd X (pc := 152) dX2_nextToken_152 ?_
      refine rc_put X (pc := 153) fX2_25 gX2_4 rb_ob3 rfl rfl rfl p4_4i dX2_nextToken_153 ?_
      refine rb_iload_n X (pc := 156) dX2_nextToken_156 rfl rfl ?_
      refine rb_if_eq X (pc := 157) (tgt := 190) dX2_nextToken_157 (by decide) (fun c157 => ?_) (fun c157 => ?_)
      · (try simp only [sp_b0, Classical.not_not] at c157)
        have hE : tE (M 0) n a = a + m + 1 := by rw [hlg.resolve_right c157]; exact tE_1 ha c157
        refine rb_vret (S := []) X (pc := 190) Y dX2_nextToken_190 ?_
        refine ⟨rfl, ?_⟩
        first
        | (have hV := tV_0 (n := n) ha c113; exact congrArg (rb_st g 3) (hd_e (tS_lt ha).symm hE.symm hV.symm))
        | (have hV := tV_2 (n := n) ha c113; rw [hE, show a + m + 1 - a = m + 1 by omega] at hV; exact congrArg (rb_st g 3) (hd_e (tS_lt ha).symm hE.symm hV.symm))
      · (try simp only [sp_b0, Classical.not_not] at c157)
        refine rb_aload_n X (pc := 160) dX2_nextToken_160 rfl rfl ?_
        refine rc_getI X (pc := 161) fX2_25 rb_ob3 rfl g4_4 dX2_nextToken_161 ?_
        refine rb_aload_n X (pc := 164) dX2_nextToken_164 rfl rfl ?_
        refine rc_getI X (pc := 165) fX2_15 rb_ob3 rfl (g4_1 hM) dX2_nextToken_165 ?_
        refine rb_icmp_ge X (pc := 168) (tgt := 190) dX2_nextToken_168 (by decide) (fun c168 => ?_) (fun c168 => ?_)
        · have hge := (sp_geI (n := n) rfl (by omega) (by omega)).mp c168
          have hE := tE_go ha c157 he (fun z => absurd z.1 (by omega))
          refine rb_vret (S := []) X (pc := 190) Y dX2_nextToken_190 ?_
          refine ⟨rfl, ?_⟩
          first
          | (have hV := tV_0 (n := n) ha c113; exact congrArg (rb_st g 3) (hd_e (tS_lt ha).symm hE.symm hV.symm))
          | (have hV := tV_2 (n := n) ha c113; rw [hE, show a + m + 1 - a = m + 1 by omega] at hV; exact congrArg (rb_st g 3) (hd_e (tS_lt ha).symm hE.symm hV.symm))
        · have hlt : a + m + 1 < n := Nat.lt_of_not_le (fun w => c168 ((sp_geI (n := n) rfl (by omega) (by omega)).mpr w))
          refine rb_aload_n X (pc := 171) dX2_nextToken_171 rfl rfl ?_
          refine rc_getR X (pc := 172) fX2_11 rb_ob3 rfl dX2_nextToken_172 ?_
          refine rb_aload_n X (pc := 175) dX2_nextToken_175 rfl rfl ?_
          refine rc_getI X (pc := 176) fX2_25 rb_ob3 rfl g4_4 dX2_nextToken_176 ?_
          refine rc_iald X (pc := 179) _ rb_ar3_0 g4_0 rfl (by omega) dX2_nextToken_179 ?_
          refine rc_callSi X (pc := 180) cvX2_sortOf mX2_128 (qX2_sortOf _) (by decide) rfl rfl (Nat.le_of_ble_eq_true rfl) dX2_nextToken_180 ?_
          refine rb_aload_n X (pc := 183) dX2_nextToken_183 rfl rfl ?_
          refine rc_getI X (pc := 184) fX2_19 rb_ob3 rfl g4_2 dX2_nextToken_184 ?_
          refine rb_icmp_eq X (pc := 187) (tgt := 108) dX2_nextToken_187 (by decide) (fun c187 => ?_) (fun c187 => ?_)
          · have he2 := he.trans (skp_t hlt (decide_eq_true c187))
            first
            | exact sp_go rfl (by rw [if_pos c113]; rfl) (ih (m + 1) (by omega) (by omega) (Or.inr c157) he2)
            | exact sp_go rfl (by rw [if_neg c113]; rfl) (ih (m + 1) (by omega) (by omega) (Or.inr c157) he2)
          · have hE := tE_go ha c157 he (fun z => c187 z.2)
            refine rb_vret (S := []) X (pc := 190) Y dX2_nextToken_190 ?_
            refine ⟨rfl, ?_⟩
            first
            | (have hV := tV_0 (n := n) ha c113; exact congrArg (rb_st g 3) (hd_e (tS_lt ha).symm hE.symm hV.symm))
            | (have hV := tV_2 (n := n) ha c113; rw [hE, show a + m + 1 - a = m + 1 by omega] at hV; exact congrArg (rb_st g 3) (hd_e (tS_lt ha).symm hE.symm hV.symm))
set_option maxRecDepth 100000 in
set_option maxHeartbeats 1000000 in
theorem lpX2_nextToken_0 {Z : rb_Z} {G : rb_G} {g : rb_H} {M : rb_T} {n : Nat} (hn : n ≤ 120) (hM : M 1 0 = nI n) {s1 a1 v1 : Int32} {p0 : Nat} (X : rb_CX Z G cX2_nextToken 2 RX2 1) (Y : rb_RT Z G none (rb_F none (rb_st g 3 (hd M n p0)))) : ∀ fu : Nat, ∀ p : Nat, p ≤ n → n + 1 ≤ p + fu → skp (tB (M 0)) n p = p0 → rb_WP Z G 2 0 [.ref (rb_ad G 3 0), .null] [] (rb_st g 3 (h4 M s1 a1 (nI p) v1)) := by
  intro fu
  induction fu with
  | zero => intro p hpn hf hp; omega
  | succ fu ih =>
    intro p hpn hf hp
    refine rb_aload_n X (pc := 0) dX2_nextToken_0 rfl rfl ?_
    refine rc_getI X (pc := 1) fX2_25 rb_ob3 rfl g4_4 dX2_nextToken_1 ?_
    refine rb_aload_n X (pc := 4) dX2_nextToken_4 rfl rfl ?_
    refine rc_getI X (pc := 5) fX2_15 rb_ob3 rfl (g4_1 hM) dX2_nextToken_5 ?_
    refine rb_icmp_ge X (pc := 8) (tgt := 40) dX2_nextToken_8 (by decide) (fun c8 => ?_) (fun c8 => ?_)
    · have hge := (sp_geI (n := n) rfl (by omega) (by omega)).mp c8
      have hp0 : p = p0 := by rw [← hp]; exact (skp_f (fun z => absurd z.1 (by omega))).symm
      subst hp0
      refine rb_aload_n X (pc := 40) dX2_nextToken_40 rfl rfl ?_
      refine rb_aload_n X (pc := 41) dX2_nextToken_41 rfl rfl ?_
      refine rc_getI X (pc := 42) fX2_25 rb_ob3 rfl g4_4 dX2_nextToken_42 ?_
      refine rc_put X (pc := 45) fX2_22 gX2_3 rb_ob3 rfl rfl rfl p4_3 dX2_nextToken_45 ?_
      refine rb_aload_n X (pc := 48) dX2_nextToken_48 rfl rfl ?_
      refine rb_iconst (v := 0) X (pc := 49) dX2_nextToken_49 (by decide) ?_
      refine rc_put X (pc := 50) fX2_28 gX2_5 rb_ob3 rfl rfl rfl p4_5 dX2_nextToken_50 ?_
      refine rb_aload_n X (pc := 53) dX2_nextToken_53 rfl rfl ?_
      refine rc_getI X (pc := 54) fX2_25 rb_ob3 rfl g4_4 dX2_nextToken_54 ?_
      refine rb_aload_n X (pc := 57) dX2_nextToken_57 rfl rfl ?_
      refine rc_getI X (pc := 58) fX2_15 rb_ob3 rfl (g4_1 hM) dX2_nextToken_58 ?_
      refine rb_icmp_lt X (pc := 61) (tgt := 70) dX2_nextToken_61 (by decide) (fun c61 => ?_) (fun c61 => ?_)
      · have ha : p < n := (nI_ltI (by omega) (by omega)).mp c61
        refine rb_aload_n X (pc := 70) dX2_nextToken_70 rfl rfl ?_
        refine rb_aload_n X (pc := 71) dX2_nextToken_71 rfl rfl ?_
        refine rc_getR X (pc := 72) fX2_11 rb_ob3 rfl dX2_nextToken_72 ?_
        refine rb_aload_n X (pc := 75) dX2_nextToken_75 rfl rfl ?_
        refine rc_getI X (pc := 76) fX2_25 rb_ob3 rfl g4_4 dX2_nextToken_76 ?_
        refine rc_iald X (pc := 79) _ rb_ar3_0 g4_0 rfl (by omega) dX2_nextToken_79 ?_
        refine rc_callSi X (pc := 80) cvX2_sortOf mX2_128 (qX2_sortOf _) (by decide) rfl rfl (Nat.le_of_ble_eq_true rfl) dX2_nextToken_80 ?_
        refine rc_put X (pc := 83) fX2_19 gX2_2 rb_ob3 rfl rfl rfl p4_2 dX2_nextToken_83 ?_
        refine rb_aload_n X (pc := 86) dX2_nextToken_86 rfl rfl ?_
        refine rc_getI X (pc := 87) fX2_19 rb_ob3 rfl g4_2 dX2_nextToken_87 ?_
        refine rb_iconst (v := 1) X (pc := 90) dX2_nextToken_90 (by decide) ?_
        refine rb_icmp_eq X (pc := 91) (tgt := 102) dX2_nextToken_91 (by decide) (fun c91 => ?_) (fun c91 => ?_)
        · refine rb_iconst (v := 1) X (pc := 102) dX2_nextToken_102 (by decide) ?_
          refine rb_goto X (pc := 103) (tgt := 107) dX2_nextToken_103 (by decide) ?_
          refine rb_istore_n X (pc := 107) dX2_nextToken_107 rfl (by decide) rfl rfl ?_
          have hz : (if ts1 (M 0 p) = 2 then tVf (M 0) p 0 else 0) = 0 := by split <;> rfl
          first
          | exact sp_go (by rw [if_pos (by first | exact Or.inl c91 | exact Or.inr (by simpa using c99))]; rfl) (by rw [hz]; rfl) (lpX2_nextToken_108 hn hM ha X Y (n + 1) 0 (by omega) (by omega) (Or.inl rfl) rfl)
          | exact sp_go (by rw [if_neg (fun z => z.elim c91 c99)]; rfl) (by rw [hz]; rfl) (lpX2_nextToken_108 hn hM ha X Y (n + 1) 0 (by omega) (by omega) (Or.inl rfl) rfl)
        · refine rb_aload_n X (pc := 94) dX2_nextToken_94 rfl rfl ?_
          refine rc_getI X (pc := 95) fX2_19 rb_ob3 rfl g4_2 dX2_nextToken_95 ?_
          refine rb_iconst (v := 2) X (pc := 98) dX2_nextToken_98 (by decide) ?_
          refine rb_icmp_ne X (pc := 99) (tgt := 106) dX2_nextToken_99 (by decide) (fun c99 => ?_) (fun c99 => ?_)
          · refine rb_iconst (v := 0) X (pc := 106) dX2_nextToken_106 (by decide) ?_
            refine rb_istore_n X (pc := 107) dX2_nextToken_107 rfl (by decide) rfl rfl ?_
            have hz : (if ts1 (M 0 p) = 2 then tVf (M 0) p 0 else 0) = 0 := by split <;> rfl
            first
            | exact sp_go (by rw [if_pos (by first | exact Or.inl c91 | exact Or.inr (by simpa using c99))]; rfl) (by rw [hz]; rfl) (lpX2_nextToken_108 hn hM ha X Y (n + 1) 0 (by omega) (by omega) (Or.inl rfl) rfl)
            | exact sp_go (by rw [if_neg (fun z => z.elim c91 c99)]; rfl) (by rw [hz]; rfl) (lpX2_nextToken_108 hn hM ha X Y (n + 1) 0 (by omega) (by omega) (Or.inl rfl) rfl)
          · refine rb_iconst (v := 1) X (pc := 102) dX2_nextToken_102 (by decide) ?_
            refine rb_goto X (pc := 103) (tgt := 107) dX2_nextToken_103 (by decide) ?_
            refine rb_istore_n X (pc := 107) dX2_nextToken_107 rfl (by decide) rfl rfl ?_
            have hz : (if ts1 (M 0 p) = 2 then tVf (M 0) p 0 else 0) = 0 := by split <;> rfl
            first
            | exact sp_go (by rw [if_pos (by first | exact Or.inl c91 | exact Or.inr (by simpa using c99))]; rfl) (by rw [hz]; rfl) (lpX2_nextToken_108 hn hM ha X Y (n + 1) 0 (by omega) (by omega) (Or.inl rfl) rfl)
            | exact sp_go (by rw [if_neg (fun z => z.elim c91 c99)]; rfl) (by rw [hz]; rfl) (lpX2_nextToken_108 hn hM ha X Y (n + 1) 0 (by omega) (by omega) (Or.inl rfl) rfl)
      · have ha : ¬ p < n := fun z => c61 ((nI_ltI (by omega) (by omega)).mpr z)
        refine rb_aload_n X (pc := 64) dX2_nextToken_64 rfl rfl ?_
        refine rb_iconst (v := 0) X (pc := 65) dX2_nextToken_65 (by decide) ?_
        refine rc_put X (pc := 66) fX2_19 gX2_2 rb_ob3 rfl rfl rfl p4_2 dX2_nextToken_66 ?_
        refine rb_vret (S := []) X (pc := 69) Y dX2_nextToken_69 ?_
        exact ⟨rfl, congrArg (rb_st g 3) (hd_end ha)⟩
    · have hlt : p < n := Nat.lt_of_not_le (fun w => c8 ((sp_geI (n := n) rfl (by omega) (by omega)).mpr w))
      refine rb_aload_n X (pc := 11) dX2_nextToken_11 rfl rfl ?_
      refine rc_getR X (pc := 12) fX2_11 rb_ob3 rfl dX2_nextToken_12 ?_
      refine rb_aload_n X (pc := 15) dX2_nextToken_15 rfl rfl ?_
      refine rc_getI X (pc := 16) fX2_25 rb_ob3 rfl g4_4 dX2_nextToken_16 ?_
      refine rc_iald X (pc := 19) _ rb_ar3_0 g4_0 rfl (by omega) dX2_nextToken_19 ?_
      refine rc_callSi X (pc := 20) cvX2_sortOf mX2_128 (qX2_sortOf _) (by decide) rfl rfl (Nat.le_of_ble_eq_true rfl) dX2_nextToken_20 ?_
      refine rb_iconst (v := 4) X (pc := 23) dX2_nextToken_23 (by decide) ?_
      refine rb_icmp_ne X (pc := 24) (tgt := 40) dX2_nextToken_24 (by decide) (fun c24 => ?_) (fun c24 => ?_)
      · have hp0 : p = p0 := by rw [← hp]; exact (skp_f (fun z => c24 (of_decide_eq_true z.2))).symm
        subst hp0
        refine rb_aload_n X (pc := 40) dX2_nextToken_40 rfl rfl ?_
        refine rb_aload_n X (pc := 41) dX2_nextToken_41 rfl rfl ?_
        refine rc_getI X (pc := 42) fX2_25 rb_ob3 rfl g4_4 dX2_nextToken_42 ?_
        refine rc_put X (pc := 45) fX2_22 gX2_3 rb_ob3 rfl rfl rfl p4_3 dX2_nextToken_45 ?_
        refine rb_aload_n X (pc := 48) dX2_nextToken_48 rfl rfl ?_
        refine rb_iconst (v := 0) X (pc := 49) dX2_nextToken_49 (by decide) ?_
        refine rc_put X (pc := 50) fX2_28 gX2_5 rb_ob3 rfl rfl rfl p4_5 dX2_nextToken_50 ?_
        refine rb_aload_n X (pc := 53) dX2_nextToken_53 rfl rfl ?_
        refine rc_getI X (pc := 54) fX2_25 rb_ob3 rfl g4_4 dX2_nextToken_54 ?_
        refine rb_aload_n X (pc := 57) dX2_nextToken_57 rfl rfl ?_
        refine rc_getI X (pc := 58) fX2_15 rb_ob3 rfl (g4_1 hM) dX2_nextToken_58 ?_
        refine rb_icmp_lt X (pc := 61) (tgt := 70) dX2_nextToken_61 (by decide) (fun c61 => ?_) (fun c61 => ?_)
        · have ha : p < n := (nI_ltI (by omega) (by omega)).mp c61
          refine rb_aload_n X (pc := 70) dX2_nextToken_70 rfl rfl ?_
          refine rb_aload_n X (pc := 71) dX2_nextToken_71 rfl rfl ?_
          refine rc_getR X (pc := 72) fX2_11 rb_ob3 rfl dX2_nextToken_72 ?_
          refine rb_aload_n X (pc := 75) dX2_nextToken_75 rfl rfl ?_
          refine rc_getI X (pc := 76) fX2_25 rb_ob3 rfl g4_4 dX2_nextToken_76 ?_
          refine rc_iald X (pc := 79) _ rb_ar3_0 g4_0 rfl (by omega) dX2_nextToken_79 ?_
          refine rc_callSi X (pc := 80) cvX2_sortOf mX2_128 (qX2_sortOf _) (by decide) rfl rfl (Nat.le_of_ble_eq_true rfl) dX2_nextToken_80 ?_
          refine rc_put X (pc := 83) fX2_19 gX2_2 rb_ob3 rfl rfl rfl p4_2 dX2_nextToken_83 ?_
          refine rb_aload_n X (pc := 86) dX2_nextToken_86 rfl rfl ?_
          refine rc_getI X (pc := 87) fX2_19 rb_ob3 rfl g4_2 dX2_nextToken_87 ?_
          refine rb_iconst (v := 1) X (pc := 90) dX2_nextToken_90 (by decide) ?_
          refine rb_icmp_eq X (pc := 91) (tgt := 102) dX2_nextToken_91 (by decide) (fun c91 => ?_) (fun c91 => ?_)
          · refine rb_iconst (v := 1) X (pc := 102) dX2_nextToken_102 (by decide) ?_
            refine rb_goto X (pc := 103) (tgt := 107) dX2_nextToken_103 (by decide) ?_
            refine rb_istore_n X (pc := 107) dX2_nextToken_107 rfl (by decide) rfl rfl ?_
            have hz : (if ts1 (M 0 p) = 2 then tVf (M 0) p 0 else 0) = 0 := by split <;> rfl
            first
            | exact sp_go (by rw [if_pos (by first | exact Or.inl c91 | exact Or.inr (by simpa using c99))]; rfl) (by rw [hz]; rfl) (lpX2_nextToken_108 hn hM ha X Y (n + 1) 0 (by omega) (by omega) (Or.inl rfl) rfl)
            | exact sp_go (by rw [if_neg (fun z => z.elim c91 c99)]; rfl) (by rw [hz]; rfl) (lpX2_nextToken_108 hn hM ha X Y (n + 1) 0 (by omega) (by omega) (Or.inl rfl) rfl)
          · refine rb_aload_n X (pc := 94) dX2_nextToken_94 rfl rfl ?_
            refine rc_getI X (pc := 95) fX2_19 rb_ob3 rfl g4_2 dX2_nextToken_95 ?_
            refine rb_iconst (v := 2) X (pc := 98) dX2_nextToken_98 (by decide) ?_
            refine rb_icmp_ne X (pc := 99) (tgt := 106) dX2_nextToken_99 (by decide) (fun c99 => ?_) (fun c99 => ?_)
            · refine rb_iconst (v := 0) X (pc := 106) dX2_nextToken_106 (by decide) ?_
              refine rb_istore_n X (pc := 107) dX2_nextToken_107 rfl (by decide) rfl rfl ?_
              have hz : (if ts1 (M 0 p) = 2 then tVf (M 0) p 0 else 0) = 0 := by split <;> rfl
              first
              | exact sp_go (by rw [if_pos (by first | exact Or.inl c91 | exact Or.inr (by simpa using c99))]; rfl) (by rw [hz]; rfl) (lpX2_nextToken_108 hn hM ha X Y (n + 1) 0 (by omega) (by omega) (Or.inl rfl) rfl)
              | exact sp_go (by rw [if_neg (fun z => z.elim c91 c99)]; rfl) (by rw [hz]; rfl) (lpX2_nextToken_108 hn hM ha X Y (n + 1) 0 (by omega) (by omega) (Or.inl rfl) rfl)
            · refine rb_iconst (v := 1) X (pc := 102) dX2_nextToken_102 (by decide) ?_
              refine rb_goto X (pc := 103) (tgt := 107) dX2_nextToken_103 (by decide) ?_
              refine rb_istore_n X (pc := 107) dX2_nextToken_107 rfl (by decide) rfl rfl ?_
              have hz : (if ts1 (M 0 p) = 2 then tVf (M 0) p 0 else 0) = 0 := by split <;> rfl
              first
              | exact sp_go (by rw [if_pos (by first | exact Or.inl c91 | exact Or.inr (by simpa using c99))]; rfl) (by rw [hz]; rfl) (lpX2_nextToken_108 hn hM ha X Y (n + 1) 0 (by omega) (by omega) (Or.inl rfl) rfl)
              | exact sp_go (by rw [if_neg (fun z => z.elim c91 c99)]; rfl) (by rw [hz]; rfl) (lpX2_nextToken_108 hn hM ha X Y (n + 1) 0 (by omega) (by omega) (Or.inl rfl) rfl)
        · have ha : ¬ p < n := fun z => c61 ((nI_ltI (by omega) (by omega)).mpr z)
          refine rb_aload_n X (pc := 64) dX2_nextToken_64 rfl rfl ?_
          refine rb_iconst (v := 0) X (pc := 65) dX2_nextToken_65 (by decide) ?_
          refine rc_put X (pc := 66) fX2_19 gX2_2 rb_ob3 rfl rfl rfl p4_2 dX2_nextToken_66 ?_
          refine rb_vret (S := []) X (pc := 69) Y dX2_nextToken_69 ?_
          exact ⟨rfl, congrArg (rb_st g 3) (hd_end ha)⟩
      · have c24 : ts1 (M 0 p) = 4 := by simpa using c24
        refine rb_aload_n X (pc := 27) dX2_nextToken_27 rfl rfl ?_
        refine rb_dup X (pc := 28) dX2_nextToken_28 rfl ?_
        refine rc_getI X (pc := 29) fX2_25 rb_ob3 rfl g4_4 dX2_nextToken_29 ?_
        refine rb_iconst (v := 1) X (pc := 32) dX2_nextToken_32 (by decide) ?_
        refine rb_iadd X (pc := 33) dX2_nextToken_33 ?_
        refine rc_put X (pc := 34) fX2_25 gX2_4 rb_ob3 rfl rfl rfl p4_4i dX2_nextToken_34 ?_
        refine rb_goto X (pc := 37) (tgt := 0) dX2_nextToken_37 (by decide) ?_
        exact sp_go rfl rfl (ih (p + 1) (by omega) (by omega) (by rw [← hp]; exact (skp_t hlt (decide_eq_true c24)).symm))
theorem qX2_nextToken {G : rb_G} {g : rb_H} {M : rb_T} {n : Nat} (hn : n ≤ 120) (hM : M 1 0 = nI n) {s1 a1 v1 : Int32} {p : Nat} (hp : p ≤ n) : rb_M G 1 yX2_nextToken cX2_nextToken 2 none [.ref (rb_ad G 3 0)] (rb_st g 3 (h4 M s1 a1 (nI p) v1)) (rb_F none (rb_st g 3 (hd M n (skp (tB (M 0)) n p)))) := by
  refine rb_meth (L := [.ref (rb_ad G 3 0), .null]) (by decide) (Nat.le_of_ble_eq_true rfl) rfl (fun Z X Y => ?_)
  exact lpX2_nextToken_0 hn hM X Y (n + 1) p hp (by omega) rfl
