set_option maxRecDepth 100000 in
set_option maxHeartbeats 1000000 in
theorem qX5_byteAt {G : rb_G} {H : rb_H} {f : Nat → Int32} {n k : Nat} (hn : n ≤ 120) (h7 : H.1 9 7 0 = nI n) (h6 : H.1 9 6 = f) (hk : k ≤ n) : rb_M G 0 yX5_byteAt cX5_byteAt 2 (some .int) [.ref (rb_ad G 9 0), .int (nI k)] (H) (rb_F (some (.int (tb f n k))) (H)) := by
  refine rb_meth (L := [.ref (rb_ad G 9 0), .int (nI k)]) (by decide) (Nat.le_of_ble_eq_true rfl) rfl (fun Z X Y => ?_)
  have X : rb_CX Z G cX5_byteAt 2 RX5 0 := X
  refine rb_iload_n X (pc := 0) dX5_byteAt_0 rfl rfl ?_
  refine rb_aload_n X (pc := 1) dX5_byteAt_1 rfl rfl ?_
  refine rc_getI X (pc := 2) fX5_208 rb_ob9 rfl h7 dX5_byteAt_2 ?_
  refine rb_icmp_ge X (pc := 5) (tgt := 17) dX5_byteAt_5 (by decide) (fun c5 => ?_) (fun c5 => ?_)
  · have hl : ¬ k < n := fun z => absurd ((sp_geI (n := n) rfl (by omega) (by omega)).mp c5) (by omega)
    refine rb_iconst (v := (-1)) X (pc := 17) dX5_byteAt_17 (by decide) ?_
    refine rb_iret (S := []) X (pc := 18) Y dX5_byteAt_18 ?_
    refine ⟨?_, rfl⟩
    unfold tb
    first | rw [if_pos hl] | rw [if_neg hl]
  · have hl : k < n := Nat.lt_of_not_le (fun w => c5 ((sp_geI (n := n) rfl (by omega) (by omega)).mpr w))
    refine rb_aload_n X (pc := 8) dX5_byteAt_8 rfl rfl ?_
    refine rc_getR X (pc := 9) fX5_25 rb_ob9 rfl dX5_byteAt_9 ?_
    refine rb_iload_n X (pc := 12) dX5_byteAt_12 rfl rfl ?_
    refine rc_iald X (pc := 13) k rb_ar9_6 h6 rfl (by omega) dX5_byteAt_13 ?_
    refine rb_goto X (pc := 14) (tgt := 18) dX5_byteAt_14 (by decide) ?_
    refine rb_iret (S := []) X (pc := 18) Y dX5_byteAt_18 ?_
    refine ⟨?_, rfl⟩
    unfold tb
    first | rw [if_pos hl] | rw [if_neg hl]
set_option maxRecDepth 100000 in
set_option maxHeartbeats 1000000 in
theorem qX5_isLetter {G : rb_G} {h : rb_H} (x : Int32) : rb_M G 1 yX5_isLetter cX5_isLetter 1 (some .boolean) [.int x] (h) (rb_F (some (.int (if 97 ≤ x ∧ x ≤ 122 then 1 else 0))) (h)) := by
  refine rb_meth (L := [.int x]) (by decide) (Nat.le_of_ble_eq_true rfl) rfl (fun Z X Y => ?_)
  have X : rb_CX Z G cX5_isLetter 1 RX5 1 := X
  refine rb_iload_n X (pc := 0) dX5_isLetter_0 rfl rfl ?_
  refine rb_i2l X (pc := 1) dX5_isLetter_1 ?_
  refine rb_ldc2 X (pc := 2) dX5_isLetter_2 kX5_212 ?_
  refine rb_ldc2 X (pc := 5) dX5_isLetter_5 kX5_214 ?_
  refine rc_callSi X (pc := 8) cvX5_in mX5_48 (qJn (a := (97)) (b := (122)) rfl rfl) (by decide) rfl rfl (Nat.le_of_ble_eq_true rfl) dX5_isLetter_8 ?_
  refine rb_zret (S := []) X (pc := 11) Y dX5_isLetter_11 sp_zn ?_
  exact ⟨rfl, rfl⟩
set_option maxRecDepth 100000 in
set_option maxHeartbeats 1000000 in
theorem qX5_isDigit {G : rb_G} {h : rb_H} (x : Int32) : rb_M G 1 yX5_isDigit cX5_isDigit 1 (some .boolean) [.int x] (h) (rb_F (some (.int (if 48 ≤ x ∧ x ≤ 57 then 1 else 0))) (h)) := by
  refine rb_meth (L := [.int x]) (by decide) (Nat.le_of_ble_eq_true rfl) rfl (fun Z X Y => ?_)
  have X : rb_CX Z G cX5_isDigit 1 RX5 1 := X
  refine rb_iload_n X (pc := 0) dX5_isDigit_0 rfl rfl ?_
  refine rb_i2l X (pc := 1) dX5_isDigit_1 ?_
  refine rb_ldc2 X (pc := 2) dX5_isDigit_2 kX5_216 ?_
  refine rb_ldc2 X (pc := 5) dX5_isDigit_5 kX5_218 ?_
  refine rc_callSi X (pc := 8) cvX5_in mX5_48 (qJn (a := (48)) (b := (57)) rfl rfl) (by decide) rfl rfl (Nat.le_of_ble_eq_true rfl) dX5_isDigit_8 ?_
  refine rb_zret (S := []) X (pc := 11) Y dX5_isDigit_11 sp_zn ?_
  exact ⟨rfl, rfl⟩
theorem qLt {G : rb_G} {h : rb_H} {f : Nat → Int32} {n k : Nat} : rb_M G 1 yX5_isLetter cX5_isLetter 1 (some .boolean) [.int (tb f n k)] h (rb_F (some (.int (if tS f n k = 1 then 1 else 0))) (h)) := by
  have e := qX5_isLetter (G := G) (h := h) (tb f n k)
  simp only [tb_l] at e
  exact e
theorem qDg {G : rb_G} {h : rb_H} {f : Nat → Int32} {n k : Nat} : rb_M G 1 yX5_isDigit cX5_isDigit 1 (some .boolean) [.int (tb f n k)] h (rb_F (some (.int (if tS f n k = 2 then 1 else 0))) (h)) := by
  have e := qX5_isDigit (G := G) (h := h) (tb f n k)
  simp only [tb_d] at e
  exact e
def tI (f : Nat → Int32) (n a b : Nat) : Prop := tE f n a = (if tS f n a = 1 ∨ tS f n a = 2 then skp (fun k => decide (ts1 (f k) = ts1 (f a))) n b else b) ∧ b ≤ n
theorem tS_in {f : Nat → Int32} {n a : Nat} {s : Int32} (h : tS f n a = s) (h0 : s ≠ 0) : a < n ∧ ts1 (f a) = s := by
  unfold tS at h
  split at h
  · rename_i z; exact ⟨z, h⟩
  · exact absurd h.symm h0
theorem tI_0 {f : Nat → Int32} {n a : Nat} (h : ¬ a < n) (ha : a ≤ n) : tI f n a a := by
  have hs : tS f n a = 0 := if_neg h
  refine ⟨?_, ha⟩
  rw [hs, if_neg (by decide)]
  exact if_neg h
theorem tI_1 {f : Nat → Int32} {n a : Nat} (h : a < n) : tI f n a (a + 1) := by
  have hs : tS f n a = ts1 (f a) := if_pos h
  refine ⟨?_, h⟩
  rw [hs]
  unfold tE
  rw [if_pos h]
theorem tI_stop {f : Nat → Int32} {n a b : Nat} (h : tI f n a b) (hx : ¬ ((tS f n a = 1 ∧ tS f n b = 1) ∨ (tS f n a = 2 ∧ tS f n b = 2))) : tE f n a = b := by
  rw [h.1]
  by_cases hl : tS f n a = 1 ∨ tS f n a = 2
  · rw [if_pos hl]
    apply skp_f
    rintro ⟨z1, z2⟩
    have z2 := of_decide_eq_true z2
    have eb : tS f n b = ts1 (f b) := if_pos z1
    rcases hl with hl | hl
    · exact hx (Or.inl ⟨hl, by rw [eb, z2]; exact (tS_in hl (by decide)).2⟩)
    · exact hx (Or.inr ⟨hl, by rw [eb, z2]; exact (tS_in hl (by decide)).2⟩)
  · rw [if_neg hl]
theorem tI_go {f : Nat → Int32} {n a b : Nat} (h : tI f n a b) (hx : (tS f n a = 1 ∧ tS f n b = 1) ∨ (tS f n a = 2 ∧ tS f n b = 2)) : tI f n a (b + 1) ∧ b < n := by
  have hl : tS f n a = 1 ∨ tS f n a = 2 := hx.imp And.left And.left
  have key : b < n ∧ ts1 (f b) = ts1 (f a) := by
    rcases hx with ⟨z1, z2⟩ | ⟨z1, z2⟩
    · obtain ⟨w1, w2⟩ := tS_in z2 (by decide)
      exact ⟨w1, by rw [w2, (tS_in z1 (by decide)).2]⟩
    · obtain ⟨w1, w2⟩ := tS_in z2 (by decide)
      exact ⟨w1, by rw [w2, (tS_in z1 (by decide)).2]⟩
  refine ⟨⟨?_, key.1⟩, key.1⟩
  rw [h.1, if_pos hl, if_pos hl]
  exact skp_t key.1 (decide_eq_true key.2)
set_option maxRecDepth 100000 in
set_option maxHeartbeats 1000000 in
theorem lpX5_token_86 {Z : rb_Z} {G : rb_G} {g : rb_H} {M T : rb_T} {n : Nat} (hn : n ≤ 120) (hM7 : M 7 0 = nI n) {a : Nat} {v w : Int32} (ha : a ≤ n) (X : rb_CX Z G cX5_token 3 RX5 2) (Y : rb_RT Z G none (rb_F none (mh g M n a v w T))) : ∀ fu : Nat, ∀ b : Nat, n + 1 ≤ b + fu → tI (M 6) n a b → rb_WP Z G 3 86 [.ref (rb_ad G 9 0), .int (if tS (M 6) n a = 1 then 1 else 0), .int (if tS (M 6) n a = 2 then 1 else 0)] [] (mp g M (nI a) (nI b) v w T) := by
  intro fu
  induction fu with
  | zero => intro b hf hI; have := hI.2; omega
  | succ fu ih =>
    intro b hf hI
    have hb := hI.2
    refine rb_iload_n X (pc := 86) dX5_token_86 rfl rfl ?_
    refine rb_if_eq X (pc := 87) (tgt := 104) dX5_token_87 (by decide) (fun c87 => ?_) (fun c87 => ?_)
    · (try simp only [sp_b0, Classical.not_not] at c87)
      refine rb_iload_n X (pc := 104) dX5_token_104 rfl rfl ?_
      refine rb_if_eq X (pc := 105) (tgt := 135) dX5_token_105 (by decide) (fun c105 => ?_) (fun c105 => ?_)
      · (try simp only [sp_b0, Classical.not_not] at c105)
        refine rb_vret (S := []) X (pc := 135) Y dX5_token_135 ?_
        have e : tE (M 6) n a = b := tI_stop hI (by simp_all)
        exact ⟨rfl, (by rw [e] : mp g M (nI a) (nI b) v w T = mp g M (nI a) (nI (tE (M 6) n a)) v w T)⟩
      · (try simp only [sp_b0, Classical.not_not] at c105)
        refine rb_aload_n X (pc := 108) dX5_token_108 rfl rfl ?_
        refine rb_aload_n X (pc := 109) dX5_token_109 rfl rfl ?_
        refine rc_getI X (pc := 110) fX5_220 rb_ob9 rfl gp_9 dX5_token_110 ?_
        refine rc_callVi X (pc := 113) cvX5_byteAt mX5_226 rb_ob9 (qX5_byteAt hn (gp_7 hM7) gp_6 (by omega)) (by decide) rfl rfl (Nat.le_of_ble_eq_true rfl) dX5_token_113 ?_
        refine rc_callSi X (pc := 116) cvX5_isDigit mX5_232 qDg (by decide) rfl rfl (Nat.le_of_ble_eq_true rfl) dX5_token_116 ?_
        refine rb_if_eq X (pc := 119) (tgt := 135) dX5_token_119 (by decide) (fun c119 => ?_) (fun c119 => ?_)
        · (try simp only [sp_b0, Classical.not_not] at c119)
          refine rb_vret (S := []) X (pc := 135) Y dX5_token_135 ?_
          have e : tE (M 6) n a = b := tI_stop hI (by simp_all)
          exact ⟨rfl, (by rw [e] : mp g M (nI a) (nI b) v w T = mp g M (nI a) (nI (tE (M 6) n a)) v w T)⟩
        · (try simp only [sp_b0, Classical.not_not] at c119)
          refine rb_aload_n X (pc := 122) dX5_token_122 rfl rfl ?_
          refine rb_dup X (pc := 123) dX5_token_123 rfl ?_
          refine rc_getI X (pc := 124) fX5_220 rb_ob9 rfl gp_9 dX5_token_124 ?_
          refine rb_iconst (v := 1) X (pc := 127) dX5_token_127 (by decide) ?_
          refine rb_iadd X (pc := 128) dX5_token_128 ?_
          rw [nI_1]
          refine rc_put X (pc := 129) fX5_220 gX5_9 rb_ob9 rfl rfl rfl mp_9 dX5_token_129 ?_
          refine rb_goto X (pc := 132) (tgt := 86) dX5_token_132 (by decide) ?_
          have hx : (tS (M 6) n a = 1 ∧ tS (M 6) n b = 1) ∨ (tS (M 6) n a = 2 ∧ tS (M 6) n b = 2) := by simp_all
          obtain ⟨h1, h2⟩ := tI_go hI hx
          exact ih (b + 1) (by omega) h1
    · (try simp only [sp_b0, Classical.not_not] at c87)
      refine rb_aload_n X (pc := 90) dX5_token_90 rfl rfl ?_
      refine rb_aload_n X (pc := 91) dX5_token_91 rfl rfl ?_
      refine rc_getI X (pc := 92) fX5_220 rb_ob9 rfl gp_9 dX5_token_92 ?_
      refine rc_callVi X (pc := 95) cvX5_byteAt mX5_226 rb_ob9 (qX5_byteAt hn (gp_7 hM7) gp_6 (by omega)) (by decide) rfl rfl (Nat.le_of_ble_eq_true rfl) dX5_token_95 ?_
      refine rc_callSi X (pc := 98) cvX5_isLetter mX5_229 qLt (by decide) rfl rfl (Nat.le_of_ble_eq_true rfl) dX5_token_98 ?_
      refine rb_if_ne X (pc := 101) (tgt := 122) dX5_token_101 (by decide) (fun c101 => ?_) (fun c101 => ?_)
      · (try simp only [sp_b0, Classical.not_not] at c101)
        refine rb_aload_n X (pc := 122) dX5_token_122 rfl rfl ?_
        refine rb_dup X (pc := 123) dX5_token_123 rfl ?_
        refine rc_getI X (pc := 124) fX5_220 rb_ob9 rfl gp_9 dX5_token_124 ?_
        refine rb_iconst (v := 1) X (pc := 127) dX5_token_127 (by decide) ?_
        refine rb_iadd X (pc := 128) dX5_token_128 ?_
        rw [nI_1]
        refine rc_put X (pc := 129) fX5_220 gX5_9 rb_ob9 rfl rfl rfl mp_9 dX5_token_129 ?_
        refine rb_goto X (pc := 132) (tgt := 86) dX5_token_132 (by decide) ?_
        have hx : (tS (M 6) n a = 1 ∧ tS (M 6) n b = 1) ∨ (tS (M 6) n a = 2 ∧ tS (M 6) n b = 2) := by simp_all
        obtain ⟨h1, h2⟩ := tI_go hI hx
        exact ih (b + 1) (by omega) h1
      · (try simp only [sp_b0, Classical.not_not] at c101)
        refine rb_iload_n X (pc := 104) dX5_token_104 rfl rfl ?_
        refine rb_if_eq X (pc := 105) (tgt := 135) dX5_token_105 (by decide) (fun c105 => ?_) (fun c105 => ?_)
        · (try simp only [sp_b0, Classical.not_not] at c105)
          refine rb_vret (S := []) X (pc := 135) Y dX5_token_135 ?_
          have e : tE (M 6) n a = b := tI_stop hI (by simp_all)
          exact ⟨rfl, (by rw [e] : mp g M (nI a) (nI b) v w T = mp g M (nI a) (nI (tE (M 6) n a)) v w T)⟩
        · (try simp only [sp_b0, Classical.not_not] at c105)
          refine rb_aload_n X (pc := 108) dX5_token_108 rfl rfl ?_
          refine rb_aload_n X (pc := 109) dX5_token_109 rfl rfl ?_
          refine rc_getI X (pc := 110) fX5_220 rb_ob9 rfl gp_9 dX5_token_110 ?_
          refine rc_callVi X (pc := 113) cvX5_byteAt mX5_226 rb_ob9 (qX5_byteAt hn (gp_7 hM7) gp_6 (by omega)) (by decide) rfl rfl (Nat.le_of_ble_eq_true rfl) dX5_token_113 ?_
          refine rc_callSi X (pc := 116) cvX5_isDigit mX5_232 qDg (by decide) rfl rfl (Nat.le_of_ble_eq_true rfl) dX5_token_116 ?_
          refine rb_if_eq X (pc := 119) (tgt := 135) dX5_token_119 (by decide) (fun c119 => ?_) (fun c119 => ?_)
          · (try simp only [sp_b0, Classical.not_not] at c119)
            refine rb_vret (S := []) X (pc := 135) Y dX5_token_135 ?_
            have e : tE (M 6) n a = b := tI_stop hI (by simp_all)
            exact ⟨rfl, (by rw [e] : mp g M (nI a) (nI b) v w T = mp g M (nI a) (nI (tE (M 6) n a)) v w T)⟩
          · (try simp only [sp_b0, Classical.not_not] at c119)
            refine rb_aload_n X (pc := 122) dX5_token_122 rfl rfl ?_
            refine rb_dup X (pc := 123) dX5_token_123 rfl ?_
            refine rc_getI X (pc := 124) fX5_220 rb_ob9 rfl gp_9 dX5_token_124 ?_
            refine rb_iconst (v := 1) X (pc := 127) dX5_token_127 (by decide) ?_
            refine rb_iadd X (pc := 128) dX5_token_128 ?_
            rw [nI_1]
            refine rc_put X (pc := 129) fX5_220 gX5_9 rb_ob9 rfl rfl rfl mp_9 dX5_token_129 ?_
            refine rb_goto X (pc := 132) (tgt := 86) dX5_token_132 (by decide) ?_
            have hx : (tS (M 6) n a = 1 ∧ tS (M 6) n b = 1) ∨ (tS (M 6) n a = 2 ∧ tS (M 6) n b = 2) := by simp_all
            obtain ⟨h1, h2⟩ := tI_go hI hx
            exact ih (b + 1) (by omega) h1
set_option maxRecDepth 100000 in
set_option maxHeartbeats 1000000 in
theorem lpX5_token_8 {Z : rb_Z} {G : rb_G} {g : rb_H} {M T : rb_T} {n : Nat} (hn : n ≤ 120) (hM7 : M 7 0 = nI n) {a : Nat} {t v w : Int32} (X : rb_CX Z G cX5_token 3 RX5 2) (Y : rb_RT Z G none (rb_F none (mh g M n a v w T))) : ∀ fu : Nat, ∀ p : Nat, p ≤ n → n + 1 ≤ p + fu → skp (tB (M 6)) n p = a → rb_WP Z G 3 8 [.ref (rb_ad G 9 0), .null, .null] [] (mp g M (nI p) t v w T) := by
  intro fu
  induction fu with
  | zero => intro p hp hf hs; omega
  | succ fu ih =>
    intro p hp hf hs
    refine rb_aload_n X (pc := 8) dX5_token_8 rfl rfl ?_
    refine rb_aload_n X (pc := 9) dX5_token_9 rfl rfl ?_
    refine rc_getI X (pc := 10) fX5_223 rb_ob9 rfl gp_8 dX5_token_10 ?_
    refine rc_callVi X (pc := 13) cvX5_byteAt mX5_226 rb_ob9 (qX5_byteAt hn (gp_7 hM7) gp_6 (by omega)) (by decide) rfl rfl (Nat.le_of_ble_eq_true rfl) dX5_token_13 ?_
    refine rb_bipush (v := 32) X (pc := 16) dX5_token_16 (by decide) ?_
    refine rb_icmp_ne X (pc := 18) (tgt := 34) dX5_token_18 (by decide) (fun c18 => ?_) (fun c18 => ?_)
    · have hp0 : p = a := by rw [← hs]; exact (skp_f (fun z => c18 (tb_b.mpr z))).symm
      subst hp0
      refine rb_aload_n X (pc := 34) dX5_token_34 rfl rfl ?_
      refine rb_aload_n X (pc := 35) dX5_token_35 rfl rfl ?_
      refine rc_getI X (pc := 36) fX5_223 rb_ob9 rfl gp_8 dX5_token_36 ?_
      refine rc_callVi X (pc := 39) cvX5_byteAt mX5_226 rb_ob9 (qX5_byteAt hn (gp_7 hM7) gp_6 (by omega)) (by decide) rfl rfl (Nat.le_of_ble_eq_true rfl) dX5_token_39 ?_
      refine rc_callSi X (pc := 42) cvX5_isLetter mX5_229 qLt (by decide) rfl rfl (Nat.le_of_ble_eq_true rfl) dX5_token_42 ?_
      refine rb_istore_n X (pc := 45) dX5_token_45 rfl (by decide) rfl rfl ?_
      refine rb_aload_n X (pc := 46) dX5_token_46 rfl rfl ?_
      refine rb_aload_n X (pc := 47) dX5_token_47 rfl rfl ?_
      refine rc_getI X (pc := 48) fX5_223 rb_ob9 rfl gp_8 dX5_token_48 ?_
      refine rc_callVi X (pc := 51) cvX5_byteAt mX5_226 rb_ob9 (qX5_byteAt hn (gp_7 hM7) gp_6 (by omega)) (by decide) rfl rfl (Nat.le_of_ble_eq_true rfl) dX5_token_51 ?_
      refine rc_callSi X (pc := 54) cvX5_isDigit mX5_232 qDg (by decide) rfl rfl (Nat.le_of_ble_eq_true rfl) dX5_token_54 ?_
      refine rb_istore_n X (pc := 57) dX5_token_57 rfl (by decide) rfl rfl ?_
      refine rb_aload_n X (pc := 58) dX5_token_58 rfl rfl ?_
      refine rb_aload_n X (pc := 59) dX5_token_59 rfl rfl ?_
      refine rc_getI X (pc := 60) fX5_223 rb_ob9 rfl gp_8 dX5_token_60 ?_
      refine rb_aload_n X (pc := 63) dX5_token_63 rfl rfl ?_
      refine rc_getI X (pc := 64) fX5_208 rb_ob9 rfl (gp_7 hM7) dX5_token_64 ?_
      refine rb_icmp_ge X (pc := 67) (tgt := 79) dX5_token_67 (by decide) (fun c67 => ?_) (fun c67 => ?_)
      · have hl : ¬ p < n := fun z => absurd ((sp_geI (n := n) rfl (by omega) (by omega)).mp c67) (by omega)
        have hgo := lpX5_token_86 (g := g) (T := T) (v := v) (w := w) hn hM7 hp X Y (n + 1) p (by omega) (tI_0 hl hp)
        refine rb_aload_n X (pc := 79) dX5_token_79 rfl rfl ?_
        refine rc_getI X (pc := 80) fX5_223 rb_ob9 rfl gp_8 dX5_token_80 ?_
        refine rc_put X (pc := 83) fX5_220 gX5_9 rb_ob9 rfl rfl rfl mp_9 dX5_token_83 ?_
        exact sp_go rfl rfl hgo
      · have hl : p < n := Nat.lt_of_not_le (fun w => c67 ((sp_geI (n := n) rfl (by omega) (by omega)).mpr w))
        have hgo := lpX5_token_86 (g := g) (T := T) (v := v) (w := w) hn hM7 hp X Y (n + 1) (p + 1) (by omega) (tI_1 hl)
        refine rb_aload_n X (pc := 70) dX5_token_70 rfl rfl ?_
        refine rc_getI X (pc := 71) fX5_223 rb_ob9 rfl gp_8 dX5_token_71 ?_
        refine rb_iconst (v := 1) X (pc := 74) dX5_token_74 (by decide) ?_
        refine rb_iadd X (pc := 75) dX5_token_75 ?_
        rw [nI_1]
        refine rb_goto X (pc := 76) (tgt := 83) dX5_token_76 (by decide) ?_
        refine rc_put X (pc := 83) fX5_220 gX5_9 rb_ob9 rfl rfl rfl mp_9 dX5_token_83 ?_
        exact sp_go rfl rfl hgo
    · have c18 : tb (M 6) n p = 32 := by simpa using c18
      obtain ⟨hlt, hB⟩ := tb_b.mp c18
      refine rb_aload_n X (pc := 21) dX5_token_21 rfl rfl ?_
      refine rb_dup X (pc := 22) dX5_token_22 rfl ?_
      refine rc_getI X (pc := 23) fX5_223 rb_ob9 rfl gp_8 dX5_token_23 ?_
      refine rb_iconst (v := 1) X (pc := 26) dX5_token_26 (by decide) ?_
      refine rb_iadd X (pc := 27) dX5_token_27 ?_
      rw [nI_1]
      refine rc_put X (pc := 28) fX5_223 gX5_8 rb_ob9 rfl rfl rfl mp_8 dX5_token_28 ?_
      refine rb_goto X (pc := 31) (tgt := 8) dX5_token_31 (by decide) ?_
      exact ih (p + 1) (by omega) (by omega) (by rw [← hs]; exact (skp_t hlt hB).symm)
set_option maxRecDepth 100000 in
set_option maxHeartbeats 1000000 in
theorem qX5_token {G : rb_G} {g : rb_H} {M T : rb_T} {n : Nat} (hn : n ≤ 120) (hM7 : M 7 0 = nI n) {p : Nat} {a0 v w : Int32} (hp : p ≤ n) : rb_M G 2 yX5_token cX5_token 3 none [.ref (rb_ad G 9 0)] (mp g M a0 (nI p) v w T) (rb_F none (mh g M n (skp (tB (M 6)) n p) v w T)) := by
  refine rb_meth (L := [.ref (rb_ad G 9 0), .null, .null]) (by decide) (Nat.le_of_ble_eq_true rfl) rfl (fun Z X Y => ?_)
  have X : rb_CX Z G cX5_token 3 RX5 2 := X
  refine rb_aload_n X (pc := 0) dX5_token_0 rfl rfl ?_
  refine rb_aload_n X (pc := 1) dX5_token_1 rfl rfl ?_
  refine rc_getI X (pc := 2) fX5_220 rb_ob9 rfl gp_9 dX5_token_2 ?_
  refine rc_put X (pc := 5) fX5_223 gX5_8 rb_ob9 rfl rfl rfl mp_8 dX5_token_5 ?_
  exact lpX5_token_8 hn hM7 X Y (n + 1) p hp (by omega) rfl
set_option maxRecDepth 100000 in
set_option maxHeartbeats 1000000 in
theorem qMt {G : rb_G} {g : rb_H} {M T : rb_T} {n : Nat} (hn : n ≤ 120) (hM7 : M 7 0 = nI n) {a : Nat} {v : Int32} (ha : a ≤ n) : rb_M G 3 yX5_must cX5_must 2 none [.ref (rb_ad G 9 0), .int 1] (mh g M n a v 0 T) (rb_F none (mh g M n (tN (M 6) n a) v 0 T)) := by
  refine rb_meth (L := [.ref (rb_ad G 9 0), .int 1]) (by decide) (Nat.le_of_ble_eq_true rfl) rfl (fun Z X Y => ?_)
  have X : rb_CX Z G cX5_must 2 RX5 3 := X
  refine rb_aload_n X (pc := 0) dX5_must_0 rfl rfl ?_
  refine rb_aload_n X (pc := 1) dX5_must_1 rfl rfl ?_
  refine rc_getI X (pc := 2) fX5_235 rb_ob9 rfl gp_11 dX5_must_2 ?_
  refine rb_if_ne X (pc := 5) (tgt := 12) dX5_must_5 (by decide) (fun c5 => absurd rfl c5) (fun c5 => ?_)
  refine rb_iload_n X (pc := 8) dX5_must_8 rfl rfl ?_
  refine rb_if_ne X (pc := 9) (tgt := 16) dX5_must_9 (by decide) (fun c9 => ?_) (fun c9 => absurd c9 (by decide))
  refine rb_iconst (v := 0) X (pc := 16) dX5_must_16 (by decide) ?_
  refine rc_put X (pc := 17) fX5_235 gX5_11 rb_ob9 rfl rfl rfl mp_11 dX5_must_17 ?_
  refine rb_aload_n X (pc := 20) dX5_must_20 rfl rfl ?_
  refine rc_getI X (pc := 21) fX5_235 rb_ob9 rfl gp_11 dX5_must_21 ?_
  refine rb_if_ne X (pc := 24) (tgt := 31) dX5_must_24 (by decide) (fun c24 => absurd rfl c24) (fun c24 => ?_)
  refine rb_aload_n X (pc := 27) dX5_must_27 rfl rfl ?_
  refine rc_callVv X (pc := 28) cvX5_token mX5_239 rb_ob9 (qX5_token hn hM7 (tE_le ha).2) (by decide) rfl rfl (Nat.le_of_ble_eq_true rfl) dX5_must_28 ?_
  refine rb_vret (S := []) X (pc := 31) Y dX5_must_31 ?_
  exact ⟨rfl, rfl⟩
set_option maxRecDepth 100000 in
set_option maxHeartbeats 1000000 in
theorem qMf {G : rb_G} {g : rb_H} {M T : rb_T} {n : Nat} (hn : n ≤ 120) (hM7 : M 7 0 = nI n) {a : Nat} {v : Int32} : rb_M G 3 yX5_must cX5_must 2 none [.ref (rb_ad G 9 0), .int 0] (mh g M n a v 0 T) (rb_F none (mh g M n a v 1 T)) := by
  refine rb_meth (L := [.ref (rb_ad G 9 0), .int 0]) (by decide) (Nat.le_of_ble_eq_true rfl) rfl (fun Z X Y => ?_)
  have X : rb_CX Z G cX5_must 2 RX5 3 := X
  refine rb_aload_n X (pc := 0) dX5_must_0 rfl rfl ?_
  refine rb_aload_n X (pc := 1) dX5_must_1 rfl rfl ?_
  refine rc_getI X (pc := 2) fX5_235 rb_ob9 rfl gp_11 dX5_must_2 ?_
  refine rb_if_ne X (pc := 5) (tgt := 12) dX5_must_5 (by decide) (fun c5 => absurd rfl c5) (fun c5 => ?_)
  refine rb_iload_n X (pc := 8) dX5_must_8 rfl rfl ?_
  refine rb_if_ne X (pc := 9) (tgt := 16) dX5_must_9 (by decide) (fun c9 => absurd rfl c9) (fun c9 => ?_)
  refine rb_iconst (v := 1) X (pc := 12) dX5_must_12 (by decide) ?_
  refine rb_goto X (pc := 13) (tgt := 17) dX5_must_13 (by decide) ?_
  refine rc_put X (pc := 17) fX5_235 gX5_11 rb_ob9 rfl rfl rfl mp_11 dX5_must_17 ?_
  refine rb_aload_n X (pc := 20) dX5_must_20 rfl rfl ?_
  refine rc_getI X (pc := 21) fX5_235 rb_ob9 rfl gp_11 dX5_must_21 ?_
  refine rb_if_ne X (pc := 24) (tgt := 31) dX5_must_24 (by decide) (fun c24 => ?_) (fun c24 => absurd c24 (by decide))
  refine rb_vret (S := []) X (pc := 31) Y dX5_must_31 ?_
  exact ⟨rfl, rfl⟩
set_option maxRecDepth 100000 in
set_option maxHeartbeats 1000000 in
theorem qMw {G : rb_G} {g : rb_H} {M T : rb_T} {n : Nat} (hn : n ≤ 120) (hM7 : M 7 0 = nI n) {a : Nat} {v : Int32} (b : Int32) : rb_M G 3 yX5_must cX5_must 2 none [.ref (rb_ad G 9 0), .int b] (mh g M n a v 1 T) (rb_F none (mh g M n a v 1 T)) := by
  refine rb_meth (L := [.ref (rb_ad G 9 0), .int b]) (by decide) (Nat.le_of_ble_eq_true rfl) rfl (fun Z X Y => ?_)
  have X : rb_CX Z G cX5_must 2 RX5 3 := X
  refine rb_aload_n X (pc := 0) dX5_must_0 rfl rfl ?_
  refine rb_aload_n X (pc := 1) dX5_must_1 rfl rfl ?_
  refine rc_getI X (pc := 2) fX5_235 rb_ob9 rfl gp_11 dX5_must_2 ?_
  refine rb_if_ne X (pc := 5) (tgt := 12) dX5_must_5 (by decide) (fun c5 => ?_) (fun c5 => absurd c5 (by decide))
  refine rb_iconst (v := 1) X (pc := 12) dX5_must_12 (by decide) ?_
  refine rb_goto X (pc := 13) (tgt := 17) dX5_must_13 (by decide) ?_
  refine rc_put X (pc := 17) fX5_235 gX5_11 rb_ob9 rfl rfl rfl mp_11 dX5_must_17 ?_
  refine rb_aload_n X (pc := 20) dX5_must_20 rfl rfl ?_
  refine rc_getI X (pc := 21) fX5_235 rb_ob9 rfl gp_11 dX5_must_21 ?_
  refine rb_if_ne X (pc := 24) (tgt := 31) dX5_must_24 (by decide) (fun c24 => ?_) (fun c24 => absurd c24 (by decide))
  refine rb_vret (S := []) X (pc := 31) Y dX5_must_31 ?_
  exact ⟨rfl, rfl⟩
set_option maxRecDepth 100000 in
set_option maxHeartbeats 1000000 in
theorem lpX5_word_7 {Z : rb_Z} {G : rb_G} {g : rb_H} {M T : rb_T} {n : Nat} (hn : n ≤ 120) (hM7 : M 7 0 = nI n) {a : Nat} {v w : Int32} (ha : a ≤ n) (X : rb_CX Z G cX5_word 4 RX5 2) (Y : rb_RT Z G (some .long) (rb_F (some (.long (if w = 0 then wH (M 6) n a else 0))) (mh g M n a v w T))) : ∀ fu : Nat, ∀ m : Nat, a + m ≤ tE (M 6) n a → tE (M 6) n a + 1 ≤ a + m + fu → rb_WP Z G 4 7 [.ref (rb_ad G 9 0), .long (hwR (M 6) a m), .null, .int (nI (a + m))] [] (mh g M n a v w T) := by
  intro fu
  induction fu with
  | zero => intro m hm hf; omega
  | succ fu ih =>
    intro m hm hf
    have hE := tE_le (f := M 6) ha
    refine rb_iload_n X (pc := 7) dX5_word_7 rfl rfl ?_
    refine rb_aload_n X (pc := 8) dX5_word_8 rfl rfl ?_
    refine rc_getI X (pc := 9) fX5_220 rb_ob9 rfl gp_9 dX5_word_9 ?_
    refine rb_icmp_ge X (pc := 12) (tgt := 50) dX5_word_12 (by decide) (fun c12 => ?_) (fun c12 => ?_)
    · have hi2 := (sp_geI (n := tE (M 6) n a) rfl (by omega) (by omega)).mp c12
      have hme : m = tE (M 6) n a - a := by omega
      refine rb_aload_n X (pc := 50) dX5_word_50 rfl rfl ?_
      refine rc_getI X (pc := 51) fX5_235 rb_ob9 rfl gp_11 dX5_word_51 ?_
      refine rb_if_ne X (pc := 54) (tgt := 71) dX5_word_54 (by decide) (fun c54 => ?_) (fun c54 => ?_)
      · refine rb_lconst (v := 0) X (pc := 71) dX5_word_71 (by decide) ?_
        refine rb_goto X (pc := 72) (tgt := 76) dX5_word_72 (by decide) ?_
        refine rb_lret (S := []) X (pc := 76) Y dX5_word_76 ?_
        refine ⟨?_, rfl⟩
        first
        | rw [if_neg c54]
        | (have c54 : w = 0 := by simpa using c54
           rw [if_pos c54, wH, if_neg c68]; done)
        | (have c54 : w = 0 := by simpa using c54
           rw [if_pos c54, wH, if_pos c68, hme])
      · refine rb_aload_n X (pc := 57) dX5_word_57 rfl rfl ?_
        refine rb_aload_n X (pc := 58) dX5_word_58 rfl rfl ?_
        refine rc_getI X (pc := 59) fX5_223 rb_ob9 rfl gp_8 dX5_word_59 ?_
        refine rc_callVi X (pc := 62) cvX5_byteAt mX5_226 rb_ob9 (qX5_byteAt hn (gp_7 hM7) gp_6 ha) (by decide) rfl rfl (Nat.le_of_ble_eq_true rfl) dX5_word_62 ?_
        refine rc_callSi X (pc := 65) cvX5_isLetter mX5_229 qLt (by decide) rfl rfl (Nat.le_of_ble_eq_true rfl) dX5_word_65 ?_
        refine rb_if_ne X (pc := 68) (tgt := 75) dX5_word_68 (by decide) (fun c68 => ?_) (fun c68 => ?_)
        · (try simp only [sp_b0, Classical.not_not] at c68)
          refine rb_lload_n X (pc := 75) dX5_word_75 rfl rfl ?_
          refine rb_lret (S := []) X (pc := 76) Y dX5_word_76 ?_
          refine ⟨?_, rfl⟩
          first
          | rw [if_neg c54]
          | (have c54 : w = 0 := by simpa using c54
             rw [if_pos c54, wH, if_neg c68]; done)
          | (have c54 : w = 0 := by simpa using c54
             rw [if_pos c54, wH, if_pos c68, hme])
        · (try simp only [sp_b0, Classical.not_not] at c68)
          refine rb_lconst (v := 0) X (pc := 71) dX5_word_71 (by decide) ?_
          refine rb_goto X (pc := 72) (tgt := 76) dX5_word_72 (by decide) ?_
          refine rb_lret (S := []) X (pc := 76) Y dX5_word_76 ?_
          refine ⟨?_, rfl⟩
          first
          | rw [if_neg c54]
          | (have c54 : w = 0 := by simpa using c54
             rw [if_pos c54, wH, if_neg c68]; done)
          | (have c54 : w = 0 := by simpa using c54
             rw [if_pos c54, wH, if_pos c68, hme])
    · have hi2 : a + m < tE (M 6) n a := Nat.lt_of_not_le (fun z => c12 ((sp_geI (n := tE (M 6) n a) rfl (by omega) (by omega)).mpr z))
      refine rb_lload_n X (pc := 15) dX5_word_15 rfl rfl ?_
      refine rb_ldc2 X (pc := 16) dX5_word_16 kX5_242 ?_
      refine rb_lcmp X (pc := 19) dX5_word_19 ?_
      refine rb_if_le X (pc := 20) (tgt := 27) dX5_word_20 (by decide) (fun c20 => ?_) (fun c20 => ?_)
      · have eS : hwR (M 6) a (m + 1) = 32 * hwR (M 6) a m + (M 6 (a + m) - 96).toInt64 := by rw [hwR, if_neg (fun z => absurd (lg_gt0.mpr z) (Int32.not_lt.mpr c20))]
        refine rb_ldc2 X (pc := 27) dX5_word_27 kX5_244 ?_
        refine rb_lload_n X (pc := 30) dX5_word_30 rfl rfl ?_
        refine rb_lmul X (pc := 31) dX5_word_31 ?_
        refine rb_aload_n X (pc := 32) dX5_word_32 rfl rfl ?_
        refine rc_getR X (pc := 33) fX5_25 rb_ob9 rfl dX5_word_33 ?_
        refine rb_iload_n X (pc := 36) dX5_word_36 rfl rfl ?_
        refine rc_iald X (pc := 37) (a + m) rb_ar9_6 gp_6 rfl (by omega) dX5_word_37 ?_
        refine rb_bipush (v := 96) X (pc := 38) dX5_word_38 (by decide) ?_
        refine rb_isub X (pc := 40) dX5_word_40 ?_
        refine rb_i2l X (pc := 41) dX5_word_41 ?_
        refine rb_ladd X (pc := 42) dX5_word_42 ?_
        refine rb_lstore_n X (pc := 43) dX5_word_43 rfl (by decide) rfl rfl ?_
        refine rb_iinc X (pc := 44) dX5_word_44 rfl (sp_inc _) (by decide) rfl rfl ?_
        refine rb_goto X (pc := 47) (tgt := 7) dX5_word_47 (by decide) ?_
        exact sp_go (by rw [eS]; rfl) rfl (ih (m + 1) (by omega) (by omega))
      · have eS : hwR (M 6) a (m + 1) = hwR (M 6) a m := by rw [hwR, if_pos (lg_gt0.mp (Int32.not_le.mp c20))]
        refine rb_lload_n X (pc := 23) dX5_word_23 rfl rfl ?_
        refine rb_goto X (pc := 24) (tgt := 43) dX5_word_24 (by decide) ?_
        refine rb_lstore_n X (pc := 43) dX5_word_43 rfl (by decide) rfl rfl ?_
        refine rb_iinc X (pc := 44) dX5_word_44 rfl (sp_inc _) (by decide) rfl rfl ?_
        refine rb_goto X (pc := 47) (tgt := 7) dX5_word_47 (by decide) ?_
        exact sp_go (by rw [eS]; rfl) rfl (ih (m + 1) (by omega) (by omega))
set_option maxRecDepth 100000 in
set_option maxHeartbeats 1000000 in
theorem qX5_word {G : rb_G} {g : rb_H} {M T : rb_T} {n : Nat} (hn : n ≤ 120) (hM7 : M 7 0 = nI n) {a : Nat} {v w : Int32} (ha : a ≤ n) : rb_M G 2 yX5_word cX5_word 4 (some .long) [.ref (rb_ad G 9 0)] (mh g M n a v w T) (rb_F (some (.long (if w = 0 then wH (M 6) n a else 0))) (mh g M n a v w T)) := by
  refine rb_meth (L := [.ref (rb_ad G 9 0), .null, .null, .null]) (by decide) (Nat.le_of_ble_eq_true rfl) rfl (fun Z X Y => ?_)
  have X : rb_CX Z G cX5_word 4 RX5 2 := X
  have hE := tE_le (f := M 6) ha
  refine rb_lconst (v := 0) X (pc := 0) dX5_word_0 (by decide) ?_
  refine rb_lstore_n X (pc := 1) dX5_word_1 rfl (by decide) rfl rfl ?_
  refine rb_aload_n X (pc := 2) dX5_word_2 rfl rfl ?_
  refine rc_getI X (pc := 3) fX5_223 rb_ob9 rfl gp_8 dX5_word_3 ?_
  refine rb_istore_n X (pc := 6) dX5_word_6 rfl (by decide) rfl rfl ?_
  exact sp_go rfl rfl (lpX5_word_7 hn hM7 ha X Y (tE (M 6) n a + 1) 0 (by omega) (by omega))
theorem qW0 {G : rb_G} {g : rb_H} {M T : rb_T} {n : Nat} (hn : n ≤ 120) (hM7 : M 7 0 = nI n) {a : Nat} {v : Int32} (ha : a ≤ n) : rb_M G 2 yX5_word cX5_word 4 (some .long) [.ref (rb_ad G 9 0)] (mh g M n a v 0 T) (rb_F (some (.long (wH (M 6) n a))) (mh g M n a v 0 T)) := by
  have e := qX5_word (G := G) (g := g) (T := T) (v := v) (w := 0) hn hM7 ha
  rw [if_pos rfl] at e
  exact e
theorem qW1 {G : rb_G} {g : rb_H} {M T : rb_T} {n : Nat} (hn : n ≤ 120) (hM7 : M 7 0 = nI n) {a : Nat} {v : Int32} (ha : a ≤ n) : rb_M G 2 yX5_word cX5_word 4 (some .long) [.ref (rb_ad G 9 0)] (mh g M n a v 1 T) (rb_F (some (.long 0)) (mh g M n a v 1 T)) := by
  have e := qX5_word (G := G) (g := g) (T := T) (v := v) (w := 1) hn hM7 ha
  rw [if_neg (by decide)] at e
  exact e
theorem wK_0 {f : Nat → Int32} {n a : Nat} : wH f n a = 626441906 ↔ tW f n a 0 = true := by
  have e := wH_w (f := f) (n := n) (a := a) (i := 0) (by decide)
  rwa [show lN (kw 0 (rb_len.getD 0 0)) = 626441906 from by decide +kernel] at e
theorem wK_1 {f : Nat → Int32} {n a : Nat} : wH f n a = 2343 ↔ tW f n a 1 = true := by
  have e := wH_w (f := f) (n := n) (a := a) (i := 1) (by decide)
  rwa [show lN (kw 1 (rb_len.getD 1 0)) = 2343 from by decide +kernel] at e
theorem wK_2 {f : Nat → Int32} {n a : Nat} : wH f n a = 152972 ↔ tW f n a 2 = true := by
  have e := wH_w (f := f) (n := n) (a := a) (i := 2) (by decide)
  rwa [show lN (kw 2 (rb_len.getD 2 0)) = 152972 from by decide +kernel] at e
theorem wK_3 {f : Nat → Int32} {n a : Nat} : wH f n a = 19737 ↔ tW f n a 3 = true := by
  have e := wH_w (f := f) (n := n) (a := a) (i := 3) (by decide)
  rwa [show lN (kw 3 (rb_len.getD 3 0)) = 19737 from by decide +kernel] at e
theorem wK_4 {f : Nat → Int32} {n a : Nat} : wH f n a = 19391532 ↔ tW f n a 4 = true := by
  have e := wH_w (f := f) (n := n) (a := a) (i := 4) (by decide)
  rwa [show lN (kw 4 (rb_len.getD 4 0)) = 19391532 from by decide +kernel] at e
theorem wK_5 {f : Nat → Int32} {n a : Nat} : wH f n a = 24293779 ↔ tW f n a 5 = true := by
  have e := wH_w (f := f) (n := n) (a := a) (i := 5) (by decide)
  rwa [show lN (kw 5 (rb_len.getD 5 0)) = 24293779 from by decide +kernel] at e
theorem wK_6 {f : Nat → Int32} {n a : Nat} : wH f n a = 8902245 ↔ tW f n a 6 = true := by
  have e := wH_w (f := f) (n := n) (a := a) (i := 6) (by decide)
  rwa [show lN (kw 6 (rb_len.getD 6 0)) = 8902245 from by decide +kernel] at e
theorem wK_7 {f : Nat → Int32} {n a : Nat} : wH f n a = 674469 ↔ tW f n a 7 = true := by
  have e := wH_w (f := f) (n := n) (a := a) (i := 7) (by decide)
  rwa [show lN (kw 7 (rb_len.getD 7 0)) = 674469 from by decide +kernel] at e
theorem wK_8 {f : Nat → Int32} {n a : Nat} : wH f n a = 70803 ↔ tW f n a 8 = true := by
  have e := wH_w (f := f) (n := n) (a := a) (i := 8) (by decide)
  rwa [show lN (kw 8 (rb_len.getD 8 0)) = 70803 from by decide +kernel] at e
theorem wK_9 {f : Nat → Int32} {n a : Nat} : wH f n a = 404295858 ↔ tW f n a 9 = true := by
  have e := wH_w (f := f) (n := n) (a := a) (i := 9) (by decide)
  rwa [show lN (kw 9 (rb_len.getD 9 0)) = 404295858 from by decide +kernel] at e
theorem wK_10 {f : Nat → Int32} {n a : Nat} : wH f n a = 12748243 ↔ tW f n a 10 = true := by
  have e := wH_w (f := f) (n := n) (a := a) (i := 10) (by decide)
  rwa [show lN (kw 10 (rb_len.getD 10 0)) = 12748243 from by decide +kernel] at e
theorem wK_11 {f : Nat → Int32} {n a : Nat} : wH f n a = 486 ↔ tW f n a 11 = true := by
  have e := wH_w (f := f) (n := n) (a := a) (i := 11) (by decide)
  rwa [show lN (kw 11 (rb_len.getD 11 0)) = 486 from by decide +kernel] at e
theorem wK_12 {f : Nat → Int32} {n a : Nat} : wH f n a = 87435 ↔ tW f n a 12 = true := by
  have e := wH_w (f := f) (n := n) (a := a) (i := 12) (by decide)
  rwa [show lN (kw 12 (rb_len.getD 12 0)) = 87435 from by decide +kernel] at e
theorem wK_13 {f : Nat → Int32} {n a : Nat} : wH f n a = 302 ↔ tW f n a 13 = true := by
  have e := wH_w (f := f) (n := n) (a := a) (i := 13) (by decide)
  rwa [show lN (kw 13 (rb_len.getD 13 0)) = 302 from by decide +kernel] at e
set_option maxRecDepth 100000 in
set_option maxHeartbeats 1000000 in
theorem lpNmT {Z : rb_Z} {G : rb_G} {g : rb_H} {M T : rb_T} {n : Nat} (hn : n ≤ 120) (hM7 : M 7 0 = nI n) {a m : Nat} {v0 : Int32} (ha : a ≤ n) (hm : m < 1000) (hmm : tM (M 6) n a (nI m) = true) (X : rb_CX Z G cX5_number 6 RX5 4) (Y : rb_RT Z G none (rb_F none (mh g M n (tN (M 6) n a) (nv (M 6) n a) 0 T))) : ∀ fu : Nat, ∀ (k : Nat) (v : Int32), a + k ≤ tE (M 6) n a → tE (M 6) n a + 1 ≤ a + k + fu → ((tS (M 6) n a = 2 ∧ v = nvR (M 6) a k) ∨ (¬ tS (M 6) n a = 2 ∧ v = 0)) → rb_WP Z G 6 29 [.ref (rb_ad G 9 0), .int 0, .int (nI m), .int (if tS (M 6) n a = 2 then 1 else 0), .int v, .int (nI (a + k))] [] (mh g M n a v0 0 T) := by
  intro fu
  induction fu with
  | zero => intro k v hk hf hv; omega
  | succ fu ih =>
    intro k v hk hf hv
    have hE := tE_le (f := M 6) ha
    refine rb_iload X (pc := 29) dX5_number_29 rfl ?_
    refine rb_aload_n X (pc := 31) dX5_number_31 rfl rfl ?_
    refine rc_getI X (pc := 32) fX5_220 rb_ob9 rfl gp_9 dX5_number_32 ?_
    refine rb_icmp_ge X (pc := 35) (tgt := 79) dX5_number_35 (by decide) (fun c35 => ?_) (fun c35 => ?_)
    · have hi2 := (sp_geI (n := tE (M 6) n a) rfl (by omega) (by omega)).mp c35
      have hke : k = tE (M 6) n a - a := by omega
      have ev : v = nv (M 6) n a := by
        unfold nv
        rcases hv with ⟨z1, z2⟩ | ⟨z1, z2⟩
        · rw [if_pos z1, z2, hke]
        · rw [if_neg z1, z2]
      subst ev
      refine rb_aload_n X (pc := 79) dX5_number_79 rfl rfl ?_
      refine rb_iload X (pc := 80) dX5_number_80 rfl ?_
      refine rc_put X (pc := 82) fX5_246 gX5_10 rb_ob9 rfl rfl rfl mp_10 dX5_number_82 ?_
      refine rb_aload_n X (pc := 85) dX5_number_85 rfl rfl ?_
      refine rb_iload_n X (pc := 86) dX5_number_86 rfl rfl ?_
      refine rb_if_eq X (pc := 87) (tgt := 107) dX5_number_87 (by decide) (fun c87 => ?_) (fun c87 => ?_)
      · (try simp only [sp_b0, Classical.not_not] at c87)
        have hx : ¬ tM (M 6) n a (nI m) = true := fun z => c87 ((nv_M hm).mpr z).1
        refine rb_iconst (v := 0) X (pc := 107) dX5_number_107 (by decide) ?_
        refine rc_callVv X (pc := 108) cvX5_must mX5_249 rb_ob9 (qMf hn hM7) (by decide) rfl rfl (Nat.le_of_ble_eq_true rfl) dX5_number_108 ?_
        refine rb_vret (S := []) X (pc := 111) Y dX5_number_111 ?_
        first
        | exact absurd hmm hx
        | exact ⟨rfl, rfl⟩
      · (try simp only [sp_b0, Classical.not_not] at c87)
        refine rb_iload X (pc := 90) dX5_number_90 rfl ?_
        refine rb_i2l X (pc := 92) dX5_number_92 ?_
        refine rb_iload_n X (pc := 93) dX5_number_93 rfl rfl ?_
        refine rb_i2l X (pc := 94) dX5_number_94 ?_
        refine rb_iload_n X (pc := 95) dX5_number_95 rfl rfl ?_
        refine rb_i2l X (pc := 96) dX5_number_96 ?_
        refine rc_callSi X (pc := 97) cvX5_in mX5_48 (qJn (a := _) (b := _) rfl rfl) (by decide) rfl rfl (Nat.le_of_ble_eq_true rfl) dX5_number_97 ?_
        refine rb_if_eq X (pc := 100) (tgt := 107) dX5_number_100 (by decide) (fun c100 => ?_) (fun c100 => ?_)
        · (try simp only [sp_b0, Classical.not_not] at c100)
          have hx : ¬ tM (M 6) n a (nI m) = true := fun z => c100 ((nv_M hm).mpr z).2
          refine rb_iconst (v := 0) X (pc := 107) dX5_number_107 (by decide) ?_
          refine rc_callVv X (pc := 108) cvX5_must mX5_249 rb_ob9 (qMf hn hM7) (by decide) rfl rfl (Nat.le_of_ble_eq_true rfl) dX5_number_108 ?_
          refine rb_vret (S := []) X (pc := 111) Y dX5_number_111 ?_
          first
          | exact absurd hmm hx
          | exact ⟨rfl, rfl⟩
        · (try simp only [sp_b0, Classical.not_not] at c100)
          have hx : tM (M 6) n a (nI m) = true := (nv_M hm).mp ⟨c87, c100⟩
          refine rb_iconst (v := 1) X (pc := 103) dX5_number_103 (by decide) ?_
          refine rb_goto X (pc := 104) (tgt := 108) dX5_number_104 (by decide) ?_
          refine rc_callVv X (pc := 108) cvX5_must mX5_249 rb_ob9 (qMt hn hM7 ha) (by decide) rfl rfl (Nat.le_of_ble_eq_true rfl) dX5_number_108 ?_
          refine rb_vret (S := []) X (pc := 111) Y dX5_number_111 ?_
          first
          | exact absurd hmm hx
          | exact ⟨rfl, rfl⟩
    · have hi2 : a + k < tE (M 6) n a := Nat.lt_of_not_le (fun z => c35 ((sp_geI (n := tE (M 6) n a) rfl (by omega) (by omega)).mpr z))
      refine rb_iload_n X (pc := 38) dX5_number_38 rfl rfl ?_
      refine rb_if_eq X (pc := 39) (tgt := 79) dX5_number_39 (by decide) (fun c39 => ?_) (fun c39 => ?_)
      · (try simp only [sp_b0, Classical.not_not] at c39)
        have ev : v = nv (M 6) n a := by
          unfold nv
          rw [if_neg c39]
          rcases hv with ⟨z1, z2⟩ | ⟨z1, z2⟩
          · exact absurd z1 c39
          · exact z2
        subst ev
        refine rb_aload_n X (pc := 79) dX5_number_79 rfl rfl ?_
        refine rb_iload X (pc := 80) dX5_number_80 rfl ?_
        refine rc_put X (pc := 82) fX5_246 gX5_10 rb_ob9 rfl rfl rfl mp_10 dX5_number_82 ?_
        refine rb_aload_n X (pc := 85) dX5_number_85 rfl rfl ?_
        refine rb_iload_n X (pc := 86) dX5_number_86 rfl rfl ?_
        refine rb_if_eq X (pc := 87) (tgt := 107) dX5_number_87 (by decide) (fun c87 => ?_) (fun c87 => ?_)
        · (try simp only [sp_b0, Classical.not_not] at c87)
          have hx : ¬ tM (M 6) n a (nI m) = true := fun z => c87 ((nv_M hm).mpr z).1
          refine rb_iconst (v := 0) X (pc := 107) dX5_number_107 (by decide) ?_
          refine rc_callVv X (pc := 108) cvX5_must mX5_249 rb_ob9 (qMf hn hM7) (by decide) rfl rfl (Nat.le_of_ble_eq_true rfl) dX5_number_108 ?_
          refine rb_vret (S := []) X (pc := 111) Y dX5_number_111 ?_
          first
          | exact absurd hmm hx
          | exact ⟨rfl, rfl⟩
        · (try simp only [sp_b0, Classical.not_not] at c87)
          refine rb_iload X (pc := 90) dX5_number_90 rfl ?_
          refine rb_i2l X (pc := 92) dX5_number_92 ?_
          refine rb_iload_n X (pc := 93) dX5_number_93 rfl rfl ?_
          refine rb_i2l X (pc := 94) dX5_number_94 ?_
          refine rb_iload_n X (pc := 95) dX5_number_95 rfl rfl ?_
          refine rb_i2l X (pc := 96) dX5_number_96 ?_
          refine rc_callSi X (pc := 97) cvX5_in mX5_48 (qJn (a := _) (b := _) rfl rfl) (by decide) rfl rfl (Nat.le_of_ble_eq_true rfl) dX5_number_97 ?_
          refine rb_if_eq X (pc := 100) (tgt := 107) dX5_number_100 (by decide) (fun c100 => ?_) (fun c100 => ?_)
          · (try simp only [sp_b0, Classical.not_not] at c100)
            have hx : ¬ tM (M 6) n a (nI m) = true := fun z => c100 ((nv_M hm).mpr z).2
            refine rb_iconst (v := 0) X (pc := 107) dX5_number_107 (by decide) ?_
            refine rc_callVv X (pc := 108) cvX5_must mX5_249 rb_ob9 (qMf hn hM7) (by decide) rfl rfl (Nat.le_of_ble_eq_true rfl) dX5_number_108 ?_
            refine rb_vret (S := []) X (pc := 111) Y dX5_number_111 ?_
            first
            | exact absurd hmm hx
            | exact ⟨rfl, rfl⟩
          · (try simp only [sp_b0, Classical.not_not] at c100)
            have hx : tM (M 6) n a (nI m) = true := (nv_M hm).mp ⟨c87, c100⟩
            refine rb_iconst (v := 1) X (pc := 103) dX5_number_103 (by decide) ?_
            refine rb_goto X (pc := 104) (tgt := 108) dX5_number_104 (by decide) ?_
            refine rc_callVv X (pc := 108) cvX5_must mX5_249 rb_ob9 (qMt hn hM7 ha) (by decide) rfl rfl (Nat.le_of_ble_eq_true rfl) dX5_number_108 ?_
            refine rb_vret (S := []) X (pc := 111) Y dX5_number_111 ?_
            first
            | exact absurd hmm hx
            | exact ⟨rfl, rfl⟩
      · (try simp only [sp_b0, Classical.not_not] at c39)
        have ev : v = nvR (M 6) a k := by
          rcases hv with ⟨z1, z2⟩ | ⟨z1, z2⟩
          · exact z2
          · exact absurd c39 z1
        subst ev
        refine rb_iload X (pc := 42) dX5_number_42 rfl ?_
        refine rb_sipush (v := 999) X (pc := 44) dX5_number_44 (by decide) ?_
        refine rb_icmp_le X (pc := 47) (tgt := 55) dX5_number_47 (by decide) (fun c47 => ?_) (fun c47 => ?_)
        · have eS : nvR (M 6) a (k + 1) = 10 * nvR (M 6) a k + M 6 (a + k) - 48 := by rw [nvR, if_neg (Int32.not_lt.mpr c47)]
          refine rb_bipush (v := 10) X (pc := 55) dX5_number_55 (by decide) ?_
          refine rb_iload X (pc := 57) dX5_number_57 rfl ?_
          refine rb_imul X (pc := 59) dX5_number_59 ?_
          refine rb_aload_n X (pc := 60) dX5_number_60 rfl rfl ?_
          refine rc_getR X (pc := 61) fX5_25 rb_ob9 rfl dX5_number_61 ?_
          refine rb_iload X (pc := 64) dX5_number_64 rfl ?_
          refine rc_iald X (pc := 66) (a + k) rb_ar9_6 gp_6 rfl (by omega) dX5_number_66 ?_
          refine rb_iadd X (pc := 67) dX5_number_67 ?_
          refine rb_bipush (v := 48) X (pc := 68) dX5_number_68 (by decide) ?_
          refine rb_isub X (pc := 70) dX5_number_70 ?_
          refine rb_istore X (pc := 71) dX5_number_71 (by decide) rfl rfl ?_
          refine rb_iinc X (pc := 73) dX5_number_73 rfl (sp_inc _) (by decide) rfl rfl ?_
          refine rb_goto X (pc := 76) (tgt := 29) dX5_number_76 (by decide) ?_
          exact sp_go rfl rfl (ih (k + 1) _ (by omega) (by omega) (Or.inl ⟨c39, eS.symm⟩))
        · have eS : nvR (M 6) a (k + 1) = nvR (M 6) a k := by rw [nvR, if_pos (Int32.not_le.mp c47)]
          refine rb_iload X (pc := 50) dX5_number_50 rfl ?_
          refine rb_goto X (pc := 52) (tgt := 71) dX5_number_52 (by decide) ?_
          refine rb_istore X (pc := 71) dX5_number_71 (by decide) rfl rfl ?_
          refine rb_iinc X (pc := 73) dX5_number_73 rfl (sp_inc _) (by decide) rfl rfl ?_
          refine rb_goto X (pc := 76) (tgt := 29) dX5_number_76 (by decide) ?_
          exact sp_go rfl rfl (ih (k + 1) _ (by omega) (by omega) (Or.inl ⟨c39, eS.symm⟩))
set_option maxRecDepth 100000 in
set_option maxHeartbeats 1000000 in
theorem qNmT {G : rb_G} {g : rb_H} {M T : rb_T} {n : Nat} (hn : n ≤ 120) (hM7 : M 7 0 = nI n) {a m : Nat} {v0 : Int32} (ha : a ≤ n) (hm : m < 1000) (hmm : tM (M 6) n a (nI m) = true) : rb_M G 4 yX5_number cX5_number 6 none [.ref (rb_ad G 9 0), .int 0, .int (nI m)] (mh g M n a v0 0 T) (rb_F none (mh g M n (tN (M 6) n a) (nv (M 6) n a) 0 T)) := by
  refine rb_meth (L := [.ref (rb_ad G 9 0), .int 0, .int (nI m), .null, .null, .null]) (by decide) (Nat.le_of_ble_eq_true rfl) rfl (fun Z X Y => ?_)
  have X : rb_CX Z G cX5_number 6 RX5 4 := X
  have hE := tE_le (f := M 6) ha
  refine rb_aload_n X (pc := 0) dX5_number_0 rfl rfl ?_
  refine rc_getI X (pc := 1) fX5_235 rb_ob9 rfl gp_11 dX5_number_1 ?_
  refine rb_if_eq X (pc := 4) (tgt := 8) dX5_number_4 (by decide) (fun c4 => ?_) (fun c4 => absurd rfl c4)
  refine rb_aload_n X (pc := 8) dX5_number_8 rfl rfl ?_
  refine rb_aload_n X (pc := 9) dX5_number_9 rfl rfl ?_
  refine rc_getI X (pc := 10) fX5_223 rb_ob9 rfl gp_8 dX5_number_10 ?_
  refine rc_callVi X (pc := 13) cvX5_byteAt mX5_226 rb_ob9 (qX5_byteAt hn (gp_7 hM7) gp_6 ha) (by decide) rfl rfl (Nat.le_of_ble_eq_true rfl) dX5_number_13 ?_
  refine rc_callSi X (pc := 16) cvX5_isDigit mX5_232 qDg (by decide) rfl rfl (Nat.le_of_ble_eq_true rfl) dX5_number_16 ?_
  refine rb_istore_n X (pc := 19) dX5_number_19 rfl (by decide) rfl rfl ?_
  refine rb_iconst (v := 0) X (pc := 20) dX5_number_20 (by decide) ?_
  refine rb_istore X (pc := 21) dX5_number_21 (by decide) rfl rfl ?_
  refine rb_aload_n X (pc := 23) dX5_number_23 rfl rfl ?_
  refine rc_getI X (pc := 24) fX5_223 rb_ob9 rfl gp_8 dX5_number_24 ?_
  refine rb_istore X (pc := 27) dX5_number_27 (by decide) rfl rfl ?_
  exact sp_go rfl rfl (lpNmT hn hM7 ha hm hmm X Y (tE (M 6) n a + 1) 0 0 (by omega) (by omega) ((Classical.em (tS (M 6) n a = 2)).imp (fun z => ⟨z, rfl⟩) (fun z => ⟨z, rfl⟩)))
set_option maxRecDepth 100000 in
set_option maxHeartbeats 1000000 in
theorem lpNmF {Z : rb_Z} {G : rb_G} {g : rb_H} {M T : rb_T} {n : Nat} (hn : n ≤ 120) (hM7 : M 7 0 = nI n) {a m : Nat} {v0 : Int32} (ha : a ≤ n) (hm : m < 1000) (hmm : ¬ tM (M 6) n a (nI m) = true) (X : rb_CX Z G cX5_number 6 RX5 4) (Y : rb_RT Z G none (rb_F none (mh g M n a (nv (M 6) n a) 1 T))) : ∀ fu : Nat, ∀ (k : Nat) (v : Int32), a + k ≤ tE (M 6) n a → tE (M 6) n a + 1 ≤ a + k + fu → ((tS (M 6) n a = 2 ∧ v = nvR (M 6) a k) ∨ (¬ tS (M 6) n a = 2 ∧ v = 0)) → rb_WP Z G 6 29 [.ref (rb_ad G 9 0), .int 0, .int (nI m), .int (if tS (M 6) n a = 2 then 1 else 0), .int v, .int (nI (a + k))] [] (mh g M n a v0 0 T) := by
  intro fu
  induction fu with
  | zero => intro k v hk hf hv; omega
  | succ fu ih =>
    intro k v hk hf hv
    have hE := tE_le (f := M 6) ha
    refine rb_iload X (pc := 29) dX5_number_29 rfl ?_
    refine rb_aload_n X (pc := 31) dX5_number_31 rfl rfl ?_
    refine rc_getI X (pc := 32) fX5_220 rb_ob9 rfl gp_9 dX5_number_32 ?_
    refine rb_icmp_ge X (pc := 35) (tgt := 79) dX5_number_35 (by decide) (fun c35 => ?_) (fun c35 => ?_)
    · have hi2 := (sp_geI (n := tE (M 6) n a) rfl (by omega) (by omega)).mp c35
      have hke : k = tE (M 6) n a - a := by omega
      have ev : v = nv (M 6) n a := by
        unfold nv
        rcases hv with ⟨z1, z2⟩ | ⟨z1, z2⟩
        · rw [if_pos z1, z2, hke]
        · rw [if_neg z1, z2]
      subst ev
      refine rb_aload_n X (pc := 79) dX5_number_79 rfl rfl ?_
      refine rb_iload X (pc := 80) dX5_number_80 rfl ?_
      refine rc_put X (pc := 82) fX5_246 gX5_10 rb_ob9 rfl rfl rfl mp_10 dX5_number_82 ?_
      refine rb_aload_n X (pc := 85) dX5_number_85 rfl rfl ?_
      refine rb_iload_n X (pc := 86) dX5_number_86 rfl rfl ?_
      refine rb_if_eq X (pc := 87) (tgt := 107) dX5_number_87 (by decide) (fun c87 => ?_) (fun c87 => ?_)
      · (try simp only [sp_b0, Classical.not_not] at c87)
        have hx : ¬ tM (M 6) n a (nI m) = true := fun z => c87 ((nv_M hm).mpr z).1
        refine rb_iconst (v := 0) X (pc := 107) dX5_number_107 (by decide) ?_
        refine rc_callVv X (pc := 108) cvX5_must mX5_249 rb_ob9 (qMf hn hM7) (by decide) rfl rfl (Nat.le_of_ble_eq_true rfl) dX5_number_108 ?_
        refine rb_vret (S := []) X (pc := 111) Y dX5_number_111 ?_
        first
        | exact absurd hx hmm
        | exact ⟨rfl, rfl⟩
      · (try simp only [sp_b0, Classical.not_not] at c87)
        refine rb_iload X (pc := 90) dX5_number_90 rfl ?_
        refine rb_i2l X (pc := 92) dX5_number_92 ?_
        refine rb_iload_n X (pc := 93) dX5_number_93 rfl rfl ?_
        refine rb_i2l X (pc := 94) dX5_number_94 ?_
        refine rb_iload_n X (pc := 95) dX5_number_95 rfl rfl ?_
        refine rb_i2l X (pc := 96) dX5_number_96 ?_
        refine rc_callSi X (pc := 97) cvX5_in mX5_48 (qJn (a := _) (b := _) rfl rfl) (by decide) rfl rfl (Nat.le_of_ble_eq_true rfl) dX5_number_97 ?_
        refine rb_if_eq X (pc := 100) (tgt := 107) dX5_number_100 (by decide) (fun c100 => ?_) (fun c100 => ?_)
        · (try simp only [sp_b0, Classical.not_not] at c100)
          have hx : ¬ tM (M 6) n a (nI m) = true := fun z => c100 ((nv_M hm).mpr z).2
          refine rb_iconst (v := 0) X (pc := 107) dX5_number_107 (by decide) ?_
          refine rc_callVv X (pc := 108) cvX5_must mX5_249 rb_ob9 (qMf hn hM7) (by decide) rfl rfl (Nat.le_of_ble_eq_true rfl) dX5_number_108 ?_
          refine rb_vret (S := []) X (pc := 111) Y dX5_number_111 ?_
          first
          | exact absurd hx hmm
          | exact ⟨rfl, rfl⟩
        · (try simp only [sp_b0, Classical.not_not] at c100)
          have hx : tM (M 6) n a (nI m) = true := (nv_M hm).mp ⟨c87, c100⟩
          refine rb_iconst (v := 1) X (pc := 103) dX5_number_103 (by decide) ?_
          refine rb_goto X (pc := 104) (tgt := 108) dX5_number_104 (by decide) ?_
          refine rc_callVv X (pc := 108) cvX5_must mX5_249 rb_ob9 (qMt hn hM7 ha) (by decide) rfl rfl (Nat.le_of_ble_eq_true rfl) dX5_number_108 ?_
          refine rb_vret (S := []) X (pc := 111) Y dX5_number_111 ?_
          first
          | exact absurd hx hmm
          | exact ⟨rfl, rfl⟩
    · have hi2 : a + k < tE (M 6) n a := Nat.lt_of_not_le (fun z => c35 ((sp_geI (n := tE (M 6) n a) rfl (by omega) (by omega)).mpr z))
      refine rb_iload_n X (pc := 38) dX5_number_38 rfl rfl ?_
      refine rb_if_eq X (pc := 39) (tgt := 79) dX5_number_39 (by decide) (fun c39 => ?_) (fun c39 => ?_)
      · (try simp only [sp_b0, Classical.not_not] at c39)
        have ev : v = nv (M 6) n a := by
          unfold nv
          rw [if_neg c39]
          rcases hv with ⟨z1, z2⟩ | ⟨z1, z2⟩
          · exact absurd z1 c39
          · exact z2
        subst ev
        refine rb_aload_n X (pc := 79) dX5_number_79 rfl rfl ?_
        refine rb_iload X (pc := 80) dX5_number_80 rfl ?_
        refine rc_put X (pc := 82) fX5_246 gX5_10 rb_ob9 rfl rfl rfl mp_10 dX5_number_82 ?_
        refine rb_aload_n X (pc := 85) dX5_number_85 rfl rfl ?_
        refine rb_iload_n X (pc := 86) dX5_number_86 rfl rfl ?_
        refine rb_if_eq X (pc := 87) (tgt := 107) dX5_number_87 (by decide) (fun c87 => ?_) (fun c87 => ?_)
        · (try simp only [sp_b0, Classical.not_not] at c87)
          have hx : ¬ tM (M 6) n a (nI m) = true := fun z => c87 ((nv_M hm).mpr z).1
          refine rb_iconst (v := 0) X (pc := 107) dX5_number_107 (by decide) ?_
          refine rc_callVv X (pc := 108) cvX5_must mX5_249 rb_ob9 (qMf hn hM7) (by decide) rfl rfl (Nat.le_of_ble_eq_true rfl) dX5_number_108 ?_
          refine rb_vret (S := []) X (pc := 111) Y dX5_number_111 ?_
          first
          | exact absurd hx hmm
          | exact ⟨rfl, rfl⟩
        · (try simp only [sp_b0, Classical.not_not] at c87)
          refine rb_iload X (pc := 90) dX5_number_90 rfl ?_
          refine rb_i2l X (pc := 92) dX5_number_92 ?_
          refine rb_iload_n X (pc := 93) dX5_number_93 rfl rfl ?_
          refine rb_i2l X (pc := 94) dX5_number_94 ?_
          refine rb_iload_n X (pc := 95) dX5_number_95 rfl rfl ?_
          refine rb_i2l X (pc := 96) dX5_number_96 ?_
          refine rc_callSi X (pc := 97) cvX5_in mX5_48 (qJn (a := _) (b := _) rfl rfl) (by decide) rfl rfl (Nat.le_of_ble_eq_true rfl) dX5_number_97 ?_
          refine rb_if_eq X (pc := 100) (tgt := 107) dX5_number_100 (by decide) (fun c100 => ?_) (fun c100 => ?_)
          · (try simp only [sp_b0, Classical.not_not] at c100)
            have hx : ¬ tM (M 6) n a (nI m) = true := fun z => c100 ((nv_M hm).mpr z).2
            refine rb_iconst (v := 0) X (pc := 107) dX5_number_107 (by decide) ?_
            refine rc_callVv X (pc := 108) cvX5_must mX5_249 rb_ob9 (qMf hn hM7) (by decide) rfl rfl (Nat.le_of_ble_eq_true rfl) dX5_number_108 ?_
            refine rb_vret (S := []) X (pc := 111) Y dX5_number_111 ?_
            first
            | exact absurd hx hmm
            | exact ⟨rfl, rfl⟩
          · (try simp only [sp_b0, Classical.not_not] at c100)
            have hx : tM (M 6) n a (nI m) = true := (nv_M hm).mp ⟨c87, c100⟩
            refine rb_iconst (v := 1) X (pc := 103) dX5_number_103 (by decide) ?_
            refine rb_goto X (pc := 104) (tgt := 108) dX5_number_104 (by decide) ?_
            refine rc_callVv X (pc := 108) cvX5_must mX5_249 rb_ob9 (qMt hn hM7 ha) (by decide) rfl rfl (Nat.le_of_ble_eq_true rfl) dX5_number_108 ?_
            refine rb_vret (S := []) X (pc := 111) Y dX5_number_111 ?_
            first
            | exact absurd hx hmm
            | exact ⟨rfl, rfl⟩
      · (try simp only [sp_b0, Classical.not_not] at c39)
        have ev : v = nvR (M 6) a k := by
          rcases hv with ⟨z1, z2⟩ | ⟨z1, z2⟩
          · exact z2
          · exact absurd c39 z1
        subst ev
        refine rb_iload X (pc := 42) dX5_number_42 rfl ?_
        refine rb_sipush (v := 999) X (pc := 44) dX5_number_44 (by decide) ?_
        refine rb_icmp_le X (pc := 47) (tgt := 55) dX5_number_47 (by decide) (fun c47 => ?_) (fun c47 => ?_)
        · have eS : nvR (M 6) a (k + 1) = 10 * nvR (M 6) a k + M 6 (a + k) - 48 := by rw [nvR, if_neg (Int32.not_lt.mpr c47)]
          refine rb_bipush (v := 10) X (pc := 55) dX5_number_55 (by decide) ?_
          refine rb_iload X (pc := 57) dX5_number_57 rfl ?_
          refine rb_imul X (pc := 59) dX5_number_59 ?_
          refine rb_aload_n X (pc := 60) dX5_number_60 rfl rfl ?_
          refine rc_getR X (pc := 61) fX5_25 rb_ob9 rfl dX5_number_61 ?_
          refine rb_iload X (pc := 64) dX5_number_64 rfl ?_
          refine rc_iald X (pc := 66) (a + k) rb_ar9_6 gp_6 rfl (by omega) dX5_number_66 ?_
          refine rb_iadd X (pc := 67) dX5_number_67 ?_
          refine rb_bipush (v := 48) X (pc := 68) dX5_number_68 (by decide) ?_
          refine rb_isub X (pc := 70) dX5_number_70 ?_
          refine rb_istore X (pc := 71) dX5_number_71 (by decide) rfl rfl ?_
          refine rb_iinc X (pc := 73) dX5_number_73 rfl (sp_inc _) (by decide) rfl rfl ?_
          refine rb_goto X (pc := 76) (tgt := 29) dX5_number_76 (by decide) ?_
          exact sp_go rfl rfl (ih (k + 1) _ (by omega) (by omega) (Or.inl ⟨c39, eS.symm⟩))
        · have eS : nvR (M 6) a (k + 1) = nvR (M 6) a k := by rw [nvR, if_pos (Int32.not_le.mp c47)]
          refine rb_iload X (pc := 50) dX5_number_50 rfl ?_
          refine rb_goto X (pc := 52) (tgt := 71) dX5_number_52 (by decide) ?_
          refine rb_istore X (pc := 71) dX5_number_71 (by decide) rfl rfl ?_
          refine rb_iinc X (pc := 73) dX5_number_73 rfl (sp_inc _) (by decide) rfl rfl ?_
          refine rb_goto X (pc := 76) (tgt := 29) dX5_number_76 (by decide) ?_
          exact sp_go rfl rfl (ih (k + 1) _ (by omega) (by omega) (Or.inl ⟨c39, eS.symm⟩))
set_option maxRecDepth 100000 in
set_option maxHeartbeats 1000000 in
theorem qNmF {G : rb_G} {g : rb_H} {M T : rb_T} {n : Nat} (hn : n ≤ 120) (hM7 : M 7 0 = nI n) {a m : Nat} {v0 : Int32} (ha : a ≤ n) (hm : m < 1000) (hmm : ¬ tM (M 6) n a (nI m) = true) : rb_M G 4 yX5_number cX5_number 6 none [.ref (rb_ad G 9 0), .int 0, .int (nI m)] (mh g M n a v0 0 T) (rb_F none (mh g M n a (nv (M 6) n a) 1 T)) := by
  refine rb_meth (L := [.ref (rb_ad G 9 0), .int 0, .int (nI m), .null, .null, .null]) (by decide) (Nat.le_of_ble_eq_true rfl) rfl (fun Z X Y => ?_)
  have X : rb_CX Z G cX5_number 6 RX5 4 := X
  have hE := tE_le (f := M 6) ha
  refine rb_aload_n X (pc := 0) dX5_number_0 rfl rfl ?_
  refine rc_getI X (pc := 1) fX5_235 rb_ob9 rfl gp_11 dX5_number_1 ?_
  refine rb_if_eq X (pc := 4) (tgt := 8) dX5_number_4 (by decide) (fun c4 => ?_) (fun c4 => absurd rfl c4)
  refine rb_aload_n X (pc := 8) dX5_number_8 rfl rfl ?_
  refine rb_aload_n X (pc := 9) dX5_number_9 rfl rfl ?_
  refine rc_getI X (pc := 10) fX5_223 rb_ob9 rfl gp_8 dX5_number_10 ?_
  refine rc_callVi X (pc := 13) cvX5_byteAt mX5_226 rb_ob9 (qX5_byteAt hn (gp_7 hM7) gp_6 ha) (by decide) rfl rfl (Nat.le_of_ble_eq_true rfl) dX5_number_13 ?_
  refine rc_callSi X (pc := 16) cvX5_isDigit mX5_232 qDg (by decide) rfl rfl (Nat.le_of_ble_eq_true rfl) dX5_number_16 ?_
  refine rb_istore_n X (pc := 19) dX5_number_19 rfl (by decide) rfl rfl ?_
  refine rb_iconst (v := 0) X (pc := 20) dX5_number_20 (by decide) ?_
  refine rb_istore X (pc := 21) dX5_number_21 (by decide) rfl rfl ?_
  refine rb_aload_n X (pc := 23) dX5_number_23 rfl rfl ?_
  refine rc_getI X (pc := 24) fX5_223 rb_ob9 rfl gp_8 dX5_number_24 ?_
  refine rb_istore X (pc := 27) dX5_number_27 (by decide) rfl rfl ?_
  exact sp_go rfl rfl (lpNmF hn hM7 ha hm hmm X Y (tE (M 6) n a + 1) 0 0 (by omega) (by omega) ((Classical.em (tS (M 6) n a = 2)).imp (fun z => ⟨z, rfl⟩) (fun z => ⟨z, rfl⟩)))
set_option maxRecDepth 100000 in
set_option maxHeartbeats 1000000 in
theorem qNm1 {G : rb_G} {g : rb_H} {M T : rb_T} {n : Nat} (hn : n ≤ 120) (hM7 : M 7 0 = nI n) {a : Nat} {v0 : Int32} (lo hi : Int32) : rb_M G 4 yX5_number cX5_number 6 none [.ref (rb_ad G 9 0), .int lo, .int hi] (mh g M n a v0 1 T) (rb_F none (mh g M n a v0 1 T)) := by
  refine rb_meth (L := [.ref (rb_ad G 9 0), .int lo, .int hi, .null, .null, .null]) (by decide) (Nat.le_of_ble_eq_true rfl) rfl (fun Z X Y => ?_)
  have X : rb_CX Z G cX5_number 6 RX5 4 := X
  refine rb_aload_n X (pc := 0) dX5_number_0 rfl rfl ?_
  refine rc_getI X (pc := 1) fX5_235 rb_ob9 rfl gp_11 dX5_number_1 ?_
  refine rb_if_eq X (pc := 4) (tgt := 8) dX5_number_4 (by decide) (fun c4 => absurd c4 (by decide)) (fun c4 => ?_)
  refine rb_vret (S := []) X (pc := 7) Y dX5_number_7 ?_
  exact ⟨rfl, rfl⟩
