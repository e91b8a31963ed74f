set_option maxRecDepth 100000 in
set_option maxHeartbeats 1000000 in
theorem lpX5_peeked_30 {Z : rb_Z} {G : rb_G} {g : rb_H} {M T : rb_T} {n : Nat} (hn : n ≤ 120) (hM7 : M 7 0 = nI n) {a : Nat} {v : Int32} (ha : a ≤ n) (hs : tS (M 6) n a = 2) (X : rb_CX Z G cX5_peeked 3 RX5 2) (Y : rb_RT Z G (some .int) (rb_F (some (.int (if tS (M 6) n a = 2 then tV (M 6) n a else -1))) (mh g M n a v 0 T))) : ∀ fu : Nat, ∀ k : Nat, a + k ≤ tE (M 6) n a → tE (M 6) n a + 1 ≤ a + k + fu → rb_WP Z G 3 30 [.ref (rb_ad G 9 0), .int (pkR (M 6) a k), .int (nI (a + k))] [] (mh g M n a v 0 T) := by
  intro fu
  induction fu with
  | zero => intro k hk hf; omega
  | succ fu ih =>
    intro k hk hf
    have hE := tE_le (f := M 6) ha
    refine rb_iload_n X (pc := 30) dX5_peeked_30 rfl rfl ?_
    refine rb_aload_n X (pc := 31) dX5_peeked_31 rfl rfl ?_
    refine rc_getI X (pc := 32) fX5_220 rb_ob9 rfl gp_9 dX5_peeked_32 ?_
    refine rb_icmp_ge X (pc := 35) (tgt := 71) dX5_peeked_35 (by decide) (fun c35 => ?_) (fun c35 => ?_)
    · have hi2 := (sp_geI (n := tE (M 6) n a) rfl (by omega) (by omega)).mp c35
      have hke : k = tE (M 6) n a - a := by omega
      refine rb_iload_n X (pc := 71) dX5_peeked_71 rfl rfl ?_
      refine rb_iret (S := []) X (pc := 72) Y dX5_peeked_72 ?_
      exact ⟨by rw [if_pos hs, hke, pk_e hs], rfl⟩
    · have hi2 : a + k < tE (M 6) n a := Nat.lt_of_not_le (fun z => c35 ((sp_geI (n := tE (M 6) n a) rfl (by omega) (by omega)).mpr z))
      refine rb_iload_n X (pc := 38) dX5_peeked_38 rfl rfl ?_
      refine rb_bipush (v := 99) X (pc := 39) dX5_peeked_39 (by decide) ?_
      refine rb_icmp_le X (pc := 41) (tgt := 50) dX5_peeked_41 (by decide) (fun c41 => ?_) (fun c41 => ?_)
      · have eS : pkR (M 6) a (k + 1) = 10 * pkR (M 6) a k + M 6 (a + k) - 48 := by rw [pkR, if_neg (Int32.not_lt.mpr c41)]
        refine rb_bipush (v := 10) X (pc := 50) dX5_peeked_50 (by decide) ?_
        refine rb_iload_n X (pc := 52) dX5_peeked_52 rfl rfl ?_
        refine rb_imul X (pc := 53) dX5_peeked_53 ?_
        refine rb_aload_n X (pc := 54) dX5_peeked_54 rfl rfl ?_
        refine rc_getR X (pc := 55) fX5_25 rb_ob9 rfl dX5_peeked_55 ?_
        refine rb_iload_n X (pc := 58) dX5_peeked_58 rfl rfl ?_
        refine rc_iald X (pc := 59) (a + k) rb_ar9_6 gp_6 rfl (by omega) dX5_peeked_59 ?_
        refine rb_iadd X (pc := 60) dX5_peeked_60 ?_
        refine rb_bipush (v := 48) X (pc := 61) dX5_peeked_61 (by decide) ?_
        refine rb_isub X (pc := 63) dX5_peeked_63 ?_
        refine rb_istore_n X (pc := 64) dX5_peeked_64 rfl (by decide) rfl rfl ?_
        refine rb_iinc X (pc := 65) dX5_peeked_65 rfl (sp_inc _) (by decide) rfl rfl ?_
        refine rb_goto X (pc := 68) (tgt := 30) dX5_peeked_68 (by decide) ?_
        exact sp_go (by rw [eS]; rfl) rfl (ih (k + 1) (by omega) (by omega))
      · have eS : pkR (M 6) a (k + 1) = 1000 := by rw [pkR, if_pos (Int32.not_le.mp c41)]
        refine rb_sipush (v := 1000) X (pc := 44) dX5_peeked_44 (by decide) ?_
        refine rb_goto X (pc := 47) (tgt := 64) dX5_peeked_47 (by decide) ?_
        refine rb_istore_n X (pc := 64) dX5_peeked_64 rfl (by decide) rfl rfl ?_
        refine rb_iinc X (pc := 65) dX5_peeked_65 rfl (sp_inc _) (by decide) rfl rfl ?_
        refine rb_goto X (pc := 68) (tgt := 30) dX5_peeked_68 (by decide) ?_
        exact sp_go (by rw [eS]; rfl) rfl (ih (k + 1) (by omega) (by omega))
set_option maxRecDepth 100000 in
set_option maxHeartbeats 1000000 in
theorem qX5_peeked {G : rb_G} {g : rb_H} {M T : rb_T} {n : Nat} (hn : n ≤ 120) (hM7 : M 7 0 = nI n) {a : Nat} {v : Int32} (ha : a ≤ n) : rb_M G 2 yX5_peeked cX5_peeked 3 (some .int) [.ref (rb_ad G 9 0)] (mh g M n a v 0 T) (rb_F (some (.int (if tS (M 6) n a = 2 then tV (M 6) n a else -1))) (mh g M n a v 0 T)) := by
  refine rb_meth (L := [.ref (rb_ad G 9 0), .null, .null]) (by decide) (Nat.le_of_ble_eq_true rfl) rfl (fun Z X Y => ?_)
  have X : rb_CX Z G cX5_peeked 3 RX5 2 := X
  have hE := tE_le (f := M 6) ha
  refine rb_aload_n X (pc := 0) dX5_peeked_0 rfl rfl ?_
  refine rc_getI X (pc := 1) fX5_235 rb_ob9 rfl gp_11 dX5_peeked_1 ?_
  refine rb_if_ne X (pc := 4) (tgt := 21) dX5_peeked_4 (by decide) (fun c4 => absurd rfl c4) (fun c4 => ?_)
  refine rb_aload_n X (pc := 7) dX5_peeked_7 rfl rfl ?_
  refine rb_aload_n X (pc := 8) dX5_peeked_8 rfl rfl ?_
  refine rc_getI X (pc := 9) fX5_223 rb_ob9 rfl gp_8 dX5_peeked_9 ?_
  refine rc_callVi X (pc := 12) cvX5_byteAt mX5_226 rb_ob9 (qX5_byteAt hn (gp_7 hM7) gp_6 ha) (by decide) rfl rfl (Nat.le_of_ble_eq_true rfl) dX5_peeked_12 ?_
  refine rc_callSi X (pc := 15) cvX5_isDigit mX5_232 qDg (by decide) rfl rfl (Nat.le_of_ble_eq_true rfl) dX5_peeked_15 ?_
  refine rb_if_ne X (pc := 18) (tgt := 23) dX5_peeked_18 (by decide) (fun c18 => ?_) (fun c18 => ?_)
  · (try simp only [sp_b0, Classical.not_not] at c18)
    refine rb_iconst (v := 0) X (pc := 23) dX5_peeked_23 (by decide) ?_
    refine rb_istore_n X (pc := 24) dX5_peeked_24 rfl (by decide) rfl rfl ?_
    refine rb_aload_n X (pc := 25) dX5_peeked_25 rfl rfl ?_
    refine rc_getI X (pc := 26) fX5_223 rb_ob9 rfl gp_8 dX5_peeked_26 ?_
    refine rb_istore_n X (pc := 29) dX5_peeked_29 rfl (by decide) rfl rfl ?_
    exact sp_go rfl rfl (lpX5_peeked_30 hn hM7 ha c18 X Y (tE (M 6) n a + 1) 0 (by omega) (by omega))
  · (try simp only [sp_b0, Classical.not_not] at c18)
    refine rb_iconst (v := (-1)) X (pc := 21) dX5_peeked_21 (by decide) ?_
    refine rb_iret (S := []) X (pc := 22) Y dX5_peeked_22 ?_
    exact ⟨by rw [if_neg c18], rfl⟩
set_option maxRecDepth 100000 in
set_option maxHeartbeats 1000000 in
theorem qX5_kindHere {G : rb_G} {g : rb_H} {M T : rb_T} {n : Nat} (hn : n ≤ 120) (hM7 : M 7 0 = nI n) {a : Nat} {v : Int32} (ha : a ≤ n) : rb_M G 3 yX5_kindHere cX5_kindHere 3 (some .int) [.ref (rb_ad G 9 0)] (mh g M n a v 0 T) (rb_F (some (.int (if p_kd (M 6) n a < 6 then nI (p_kd (M 6) n a) else -1))) (mh g M n a v 0 T)) := by
  refine rb_meth (L := [.ref (rb_ad G 9 0), .null, .null]) (by decide) (Nat.le_of_ble_eq_true rfl) rfl (fun Z X Y => ?_)
  have X : rb_CX Z G cX5_kindHere 3 RX5 3 := X
  refine rb_aload_n X (pc := 0) dX5_kindHere_0 rfl rfl ?_
  refine rc_callVl X (pc := 1) cvX5_word mX5_253 rb_ob9 (qW0 hn hM7 ha) (by decide) rfl rfl (Nat.le_of_ble_eq_true rfl) dX5_kindHere_1 ?_
  refine rb_lstore_n X (pc := 4) dX5_kindHere_4 rfl (by decide) rfl rfl ?_
  refine rb_lload_n X (pc := 5) dX5_kindHere_5 rfl rfl ?_
  refine rb_ldc2 X (pc := 6) dX5_kindHere_6 kX5_257 ?_
  refine rb_lcmp X (pc := 9) dX5_kindHere_9 ?_
  refine rb_if_ne X (pc := 10) (tgt := 17) dX5_kindHere_10 (by decide) (fun c10 => ?_) (fun c10 => ?_)
  · rw [lg_eq0, wK_0] at c10
    refine rb_lload_n X (pc := 17) dX5_kindHere_17 rfl rfl ?_
    refine rb_ldc2 X (pc := 18) dX5_kindHere_18 kX5_259 ?_
    refine rb_lcmp X (pc := 21) dX5_kindHere_21 ?_
    refine rb_if_ne X (pc := 22) (tgt := 29) dX5_kindHere_22 (by decide) (fun c22 => ?_) (fun c22 => ?_)
    · rw [lg_eq0, wK_1] at c22
      refine rb_lload_n X (pc := 29) dX5_kindHere_29 rfl rfl ?_
      refine rb_ldc2 X (pc := 30) dX5_kindHere_30 kX5_261 ?_
      refine rb_lcmp X (pc := 33) dX5_kindHere_33 ?_
      refine rb_if_ne X (pc := 34) (tgt := 41) dX5_kindHere_34 (by decide) (fun c34 => ?_) (fun c34 => ?_)
      · rw [lg_eq0, wK_2] at c34
        refine rb_lload_n X (pc := 41) dX5_kindHere_41 rfl rfl ?_
        refine rb_ldc2 X (pc := 42) dX5_kindHere_42 kX5_263 ?_
        refine rb_lcmp X (pc := 45) dX5_kindHere_45 ?_
        refine rb_if_ne X (pc := 46) (tgt := 53) dX5_kindHere_46 (by decide) (fun c46 => ?_) (fun c46 => ?_)
        · rw [lg_eq0, wK_3] at c46
          refine rb_lload_n X (pc := 53) dX5_kindHere_53 rfl rfl ?_
          refine rb_ldc2 X (pc := 54) dX5_kindHere_54 kX5_265 ?_
          refine rb_lcmp X (pc := 57) dX5_kindHere_57 ?_
          refine rb_if_ne X (pc := 58) (tgt := 65) dX5_kindHere_58 (by decide) (fun c58 => ?_) (fun c58 => ?_)
          · rw [lg_eq0, wK_4] at c58
            refine rb_lload_n X (pc := 65) dX5_kindHere_65 rfl rfl ?_
            refine rb_ldc2 X (pc := 66) dX5_kindHere_66 kX5_267 ?_
            refine rb_lcmp X (pc := 69) dX5_kindHere_69 ?_
            refine rb_if_ne X (pc := 70) (tgt := 77) dX5_kindHere_70 (by decide) (fun c70 => ?_) (fun c70 => ?_)
            · rw [lg_eq0, wK_5] at c70
              have hk : p_kd (M 6) n a = 6 := fa_first_none (fun c hc => by
                have hh : c = 0 ∨ c = 1 ∨ c = 2 ∨ c = 3 ∨ c = 4 ∨ c = 5 := by omega
                rcases hh with rfl | rfl | rfl | rfl | rfl | rfl
                · exact eq_false_of_ne_true c10
                · exact eq_false_of_ne_true c22
                · exact eq_false_of_ne_true c34
                · exact eq_false_of_ne_true c46
                · exact eq_false_of_ne_true c58
                · exact eq_false_of_ne_true c70)
              refine rb_iconst (v := (-1)) X (pc := 77) dX5_kindHere_77 (by decide) ?_
              refine rb_iret (S := []) X (pc := 78) Y dX5_kindHere_78 ?_
              exact ⟨by rw [hk]; rfl, rfl⟩
            · rw [lg_eq0, wK_5] at c70
              have hk : p_kd (M 6) n a = 5 := fa_first_eq (by decide) c70 (fun c hc => by
                have hh : c = 0 ∨ c = 1 ∨ c = 2 ∨ c = 3 ∨ c = 4 := by omega
                rcases hh with rfl | rfl | rfl | rfl | rfl
                · exact eq_false_of_ne_true c10
                · exact eq_false_of_ne_true c22
                · exact eq_false_of_ne_true c34
                · exact eq_false_of_ne_true c46
                · exact eq_false_of_ne_true c58)
              refine rb_iconst (v := 5) X (pc := 73) dX5_kindHere_73 (by decide) ?_
              refine rb_goto X (pc := 74) (tgt := 78) dX5_kindHere_74 (by decide) ?_
              refine rb_iret (S := []) X (pc := 78) Y dX5_kindHere_78 ?_
              exact ⟨by rw [hk]; rfl, rfl⟩
          · rw [lg_eq0, wK_4] at c58
            have hk : p_kd (M 6) n a = 4 := fa_first_eq (by decide) c58 (fun c hc => by
              have hh : c = 0 ∨ c = 1 ∨ c = 2 ∨ c = 3 := by omega
              rcases hh with rfl | rfl | rfl | rfl
              · exact eq_false_of_ne_true c10
              · exact eq_false_of_ne_true c22
              · exact eq_false_of_ne_true c34
              · exact eq_false_of_ne_true c46)
            refine rb_iconst (v := 4) X (pc := 61) dX5_kindHere_61 (by decide) ?_
            refine rb_goto X (pc := 62) (tgt := 78) dX5_kindHere_62 (by decide) ?_
            refine rb_iret (S := []) X (pc := 78) Y dX5_kindHere_78 ?_
            exact ⟨by rw [hk]; rfl, rfl⟩
        · rw [lg_eq0, wK_3] at c46
          have hk : p_kd (M 6) n a = 3 := fa_first_eq (by decide) c46 (fun c hc => by
            have hh : c = 0 ∨ c = 1 ∨ c = 2 := by omega
            rcases hh with rfl | rfl | rfl
            · exact eq_false_of_ne_true c10
            · exact eq_false_of_ne_true c22
            · exact eq_false_of_ne_true c34)
          refine rb_iconst (v := 3) X (pc := 49) dX5_kindHere_49 (by decide) ?_
          refine rb_goto X (pc := 50) (tgt := 78) dX5_kindHere_50 (by decide) ?_
          refine rb_iret (S := []) X (pc := 78) Y dX5_kindHere_78 ?_
          exact ⟨by rw [hk]; rfl, rfl⟩
      · rw [lg_eq0, wK_2] at c34
        have hk : p_kd (M 6) n a = 2 := fa_first_eq (by decide) c34 (fun c hc => by
          have hh : c = 0 ∨ c = 1 := by omega
          rcases hh with rfl | rfl
          · exact eq_false_of_ne_true c10
          · exact eq_false_of_ne_true c22)
        refine rb_iconst (v := 2) X (pc := 37) dX5_kindHere_37 (by decide) ?_
        refine rb_goto X (pc := 38) (tgt := 78) dX5_kindHere_38 (by decide) ?_
        refine rb_iret (S := []) X (pc := 78) Y dX5_kindHere_78 ?_
        exact ⟨by rw [hk]; rfl, rfl⟩
    · rw [lg_eq0, wK_1] at c22
      have hk : p_kd (M 6) n a = 1 := fa_first_eq (by decide) c22 (fun c hc => by
        obtain rfl : c = 0 := by omega
        exact eq_false_of_ne_true c10)
      refine rb_iconst (v := 1) X (pc := 25) dX5_kindHere_25 (by decide) ?_
      refine rb_goto X (pc := 26) (tgt := 78) dX5_kindHere_26 (by decide) ?_
      refine rb_iret (S := []) X (pc := 78) Y dX5_kindHere_78 ?_
      exact ⟨by rw [hk]; rfl, rfl⟩
  · rw [lg_eq0, wK_0] at c10
    have hk : p_kd (M 6) n a = 0 := fa_first_eq (by decide) c10 (fun c hc => absurd hc (by omega))
    refine rb_iconst (v := 0) X (pc := 13) dX5_kindHere_13 (by decide) ?_
    refine rb_goto X (pc := 14) (tgt := 78) dX5_kindHere_14 (by decide) ?_
    refine rb_iret (S := []) X (pc := 78) Y dX5_kindHere_78 ?_
    exact ⟨by rw [hk]; rfl, rfl⟩
abbrev HS (g : rb_H) (M : rb_T) (n : Nat) (p : p_R) (v : Int32) : rb_H := mh g M n p.2.1 v (if p.1 then 0 else 1) p.2.2
set_option maxRecDepth 100000 in
set_option maxHeartbeats 1000000 in
theorem qPi_no {G : rb_G} {g : rb_H} {M T : rb_T} {n : Nat} (hn : n ≤ 120) (hM7 : M 7 0 = nI n) {a : Nat} {v : Int32} (ha : a ≤ n) {i j q k m : Nat} {K : Int64} (hK : ∀ b, wH (M 6) n b = K ↔ tW (M 6) n b i = true) (hK0 : ¬ (0 : Int64) = K) (hk : k < 77) (he : ∀ (S : rb_T) (x : Int32), va_up (enc S) k x = enc (u2 S j q x)) (hm : m < 1000) (hW : ¬ tW (M 6) n a i = true) : rb_M G 5 yX5_partItem cX5_partItem 5 none [.ref (rb_ad G 9 0), .long K, .int (nI k), .int (nI m)] (mh g M n a v 0 T) (fun r h2 => r = none ∧ ∃ v2, h2 = HS g M n (p_part (M 6) n i (nI m) j q a T) v2) := by
  refine rb_meth (L := [.ref (rb_ad G 9 0), .long K, .null, .int (nI k), .int (nI m)]) (by decide) (Nat.le_of_ble_eq_true rfl) rfl (fun Z X Y => ?_)
  have X : rb_CX Z G cX5_partItem 5 RX5 5 := X
  refine rb_aload_n X (pc := 0) dX5_partItem_0 rfl rfl ?_
  refine rc_callVl X (pc := 1) cvX5_word mX5_253 rb_ob9 (qW0 hn hM7 ha) (by decide) rfl rfl (Nat.le_of_ble_eq_true rfl) dX5_partItem_1 ?_
  refine rb_lload_n X (pc := 4) dX5_partItem_4 rfl rfl ?_
  refine rb_lcmp X (pc := 5) dX5_partItem_5 ?_
  refine rb_if_ne X (pc := 6) (tgt := 47) dX5_partItem_6 (by decide) (fun c6 => ?_) (fun c6 => absurd ((hK a).mp (lg_eq0.mp c6)) hW)
  refine rb_vret (S := []) X (pc := 47) Y dX5_partItem_47 ?_
  have e : p_part (M 6) n i (nI m) j q a T = (true, a, T) := by rw [p_part, if_neg hW]
  exact ⟨rfl, v, by rw [e]; rfl⟩
set_option maxRecDepth 100000 in
set_option maxHeartbeats 1000000 in
theorem qPi_T {G : rb_G} {g : rb_H} {M T : rb_T} {n : Nat} (hn : n ≤ 120) (hM7 : M 7 0 = nI n) {a : Nat} {v : Int32} (ha : a ≤ n) {i j q k m : Nat} {K : Int64} (hK : ∀ b, wH (M 6) n b = K ↔ tW (M 6) n b i = true) (hK0 : ¬ (0 : Int64) = K) (hk : k < 77) (he : ∀ (S : rb_T) (x : Int32), va_up (enc S) k x = enc (u2 S j q x)) (hm : m < 1000) (hW : tW (M 6) n a i = true) (hT : tM (M 6) n (tN (M 6) n a) (nI m) = true) : rb_M G 5 yX5_partItem cX5_partItem 5 none [.ref (rb_ad G 9 0), .long K, .int (nI k), .int (nI m)] (mh g M n a v 0 T) (fun r h2 => r = none ∧ ∃ v2, h2 = HS g M n (p_part (M 6) n i (nI m) j q a T) v2) := by
  refine rb_meth (L := [.ref (rb_ad G 9 0), .long K, .null, .int (nI k), .int (nI m)]) (by decide) (Nat.le_of_ble_eq_true rfl) rfl (fun Z X Y => ?_)
  have X : rb_CX Z G cX5_partItem 5 RX5 5 := X
  refine rb_aload_n X (pc := 0) dX5_partItem_0 rfl rfl ?_
  refine rc_callVl X (pc := 1) cvX5_word mX5_253 rb_ob9 (qW0 hn hM7 ha) (by decide) rfl rfl (Nat.le_of_ble_eq_true rfl) dX5_partItem_1 ?_
  refine rb_lload_n X (pc := 4) dX5_partItem_4 rfl rfl ?_
  refine rb_lcmp X (pc := 5) dX5_partItem_5 ?_
  refine rb_if_ne X (pc := 6) (tgt := 47) dX5_partItem_6 (by decide) (fun c6 => absurd (lg_eq0.mpr ((hK a).mpr hW)) c6) (fun c6 => ?_)
  refine rb_aload_n X (pc := 9) dX5_partItem_9 rfl rfl ?_
  refine rb_iconst (v := 1) X (pc := 10) dX5_partItem_10 (by decide) ?_
  refine rc_callVv X (pc := 11) cvX5_must mX5_249 rb_ob9 (qMt hn hM7 ha) (by decide) rfl rfl (Nat.le_of_ble_eq_true rfl) dX5_partItem_11 ?_
  refine rb_aload_n X (pc := 14) dX5_partItem_14 rfl rfl ?_
  refine rb_iconst (v := 0) X (pc := 15) dX5_partItem_15 (by decide) ?_
  refine rb_iload X (pc := 16) dX5_partItem_16 rfl ?_
  refine rc_callVv X (pc := 18) cvX5_number mX5_269 rb_ob9 (qNmT hn hM7 (tN_le ha).2 hm hT) (by decide) rfl rfl (Nat.le_of_ble_eq_true rfl) dX5_partItem_18 ?_
  refine rb_aload_n X (pc := 21) dX5_partItem_21 rfl rfl ?_
  refine rc_getR X (pc := 22) fX5_7 rb_ob9 rfl dX5_partItem_22 ?_
  refine rb_iload_n X (pc := 25) dX5_partItem_25 rfl rfl ?_
  refine rb_aload_n X (pc := 26) dX5_partItem_26 rfl rfl ?_
  refine rc_getI X (pc := 27) fX5_235 rb_ob9 rfl gp_11 dX5_partItem_27 ?_
  refine rb_if_eq X (pc := 30) (tgt := 42) dX5_partItem_30 (by decide) (fun c30 => ?_) (fun c30 => absurd rfl c30)
  refine rb_aload_n X (pc := 42) dX5_partItem_42 rfl rfl ?_
  refine rc_getI X (pc := 43) fX5_246 rb_ob9 rfl gp_10 dX5_partItem_43 ?_
  refine rc_iast X (pc := 46) k rb_ar9_0 (ms_u.trans (congrArg (rb_row _ 9 0) (he _ _))) rfl hk dX5_partItem_46 ?_
  refine rb_vret (S := []) X (pc := 47) Y dX5_partItem_47 ?_
  have e : p_part (M 6) n i (nI m) j q a T = (true, tN (M 6) n (tN (M 6) n a), u2 T j q (nv (M 6) n (tN (M 6) n a))) := by rw [p_part, if_pos hW, if_pos hT, nv_V hm hT]
  exact ⟨rfl, _, by rw [e]; rfl⟩
set_option maxRecDepth 100000 in
set_option maxHeartbeats 1000000 in
theorem qPi_F {G : rb_G} {g : rb_H} {M T : rb_T} {n : Nat} (hn : n ≤ 120) (hM7 : M 7 0 = nI n) {a : Nat} {v : Int32} (ha : a ≤ n) {i j q k m : Nat} {K : Int64} (hK : ∀ b, wH (M 6) n b = K ↔ tW (M 6) n b i = true) (hK0 : ¬ (0 : Int64) = K) (hk : k < 77) (he : ∀ (S : rb_T) (x : Int32), va_up (enc S) k x = enc (u2 S j q x)) (hm : m < 1000) (hW : tW (M 6) n a i = true) (hT : ¬ tM (M 6) n (tN (M 6) n a) (nI m) = true) : rb_M G 5 yX5_partItem cX5_partItem 5 none [.ref (rb_ad G 9 0), .long K, .int (nI k), .int (nI m)] (mh g M n a v 0 T) (fun r h2 => r = none ∧ ∃ v2, h2 = HS g M n (p_part (M 6) n i (nI m) j q a T) v2) := by
  refine rb_meth (L := [.ref (rb_ad G 9 0), .long K, .null, .int (nI k), .int (nI m)]) (by decide) (Nat.le_of_ble_eq_true rfl) rfl (fun Z X Y => ?_)
  have X : rb_CX Z G cX5_partItem 5 RX5 5 := X
  refine rb_aload_n X (pc := 0) dX5_partItem_0 rfl rfl ?_
  refine rc_callVl X (pc := 1) cvX5_word mX5_253 rb_ob9 (qW0 hn hM7 ha) (by decide) rfl rfl (Nat.le_of_ble_eq_true rfl) dX5_partItem_1 ?_
  refine rb_lload_n X (pc := 4) dX5_partItem_4 rfl rfl ?_
  refine rb_lcmp X (pc := 5) dX5_partItem_5 ?_
  refine rb_if_ne X (pc := 6) (tgt := 47) dX5_partItem_6 (by decide) (fun c6 => absurd (lg_eq0.mpr ((hK a).mpr hW)) c6) (fun c6 => ?_)
  refine rb_aload_n X (pc := 9) dX5_partItem_9 rfl rfl ?_
  refine rb_iconst (v := 1) X (pc := 10) dX5_partItem_10 (by decide) ?_
  refine rc_callVv X (pc := 11) cvX5_must mX5_249 rb_ob9 (qMt hn hM7 ha) (by decide) rfl rfl (Nat.le_of_ble_eq_true rfl) dX5_partItem_11 ?_
  refine rb_aload_n X (pc := 14) dX5_partItem_14 rfl rfl ?_
  refine rb_iconst (v := 0) X (pc := 15) dX5_partItem_15 (by decide) ?_
  refine rb_iload X (pc := 16) dX5_partItem_16 rfl ?_
  refine rc_callVv X (pc := 18) cvX5_number mX5_269 rb_ob9 (qNmF hn hM7 (tN_le ha).2 hm hT) (by decide) rfl rfl (Nat.le_of_ble_eq_true rfl) dX5_partItem_18 ?_
  refine rb_aload_n X (pc := 21) dX5_partItem_21 rfl rfl ?_
  refine rc_getR X (pc := 22) fX5_7 rb_ob9 rfl dX5_partItem_22 ?_
  refine rb_iload_n X (pc := 25) dX5_partItem_25 rfl rfl ?_
  refine rb_aload_n X (pc := 26) dX5_partItem_26 rfl rfl ?_
  refine rc_getI X (pc := 27) fX5_235 rb_ob9 rfl gp_11 dX5_partItem_27 ?_
  refine rb_if_eq X (pc := 30) (tgt := 42) dX5_partItem_30 (by decide) (fun c30 => absurd c30 (by decide)) (fun c30 => ?_)
  refine rb_aload_n X (pc := 33) dX5_partItem_33 rfl rfl ?_
  refine rc_getR X (pc := 34) fX5_7 rb_ob9 rfl dX5_partItem_34 ?_
  refine rb_iload_n X (pc := 37) dX5_partItem_37 rfl rfl ?_
  refine rc_ialdv X (pc := 38) k rb_ar9_0 (congrFun ms_at _) rfl hk dX5_partItem_38 ?_
  refine rb_goto X (pc := 39) (tgt := 46) dX5_partItem_39 (by decide) ?_
  refine rc_iast X (pc := 46) k rb_ar9_0 (ms_u.trans (congrArg (rb_row _ 9 0) va_upS)) rfl hk dX5_partItem_46 ?_
  refine rb_vret (S := []) X (pc := 47) Y dX5_partItem_47 ?_
  have e : p_part (M 6) n i (nI m) j q a T = (false, tN (M 6) n a, T) := by rw [p_part, if_pos hW, if_neg hT]
  exact ⟨rfl, _, by rw [e]; rfl⟩
set_option maxRecDepth 100000 in
set_option maxHeartbeats 1000000 in
theorem qPi_1 {G : rb_G} {g : rb_H} {M T : rb_T} {n : Nat} (hn : n ≤ 120) (hM7 : M 7 0 = nI n) {a : Nat} {v : Int32} (ha : a ≤ n) {i j q k m : Nat} {K : Int64} (hK : ∀ b, wH (M 6) n b = K ↔ tW (M 6) n b i = true) (hK0 : ¬ (0 : Int64) = K) (hk : k < 77) (he : ∀ (S : rb_T) (x : Int32), va_up (enc S) k x = enc (u2 S j q x)) (hm : m < 1000) : rb_M G 5 yX5_partItem cX5_partItem 5 none [.ref (rb_ad G 9 0), .long K, .int (nI k), .int (nI m)] (mh g M n a v 1 T) (fun r h2 => r = none ∧ ∃ v2, h2 = HS g M n (((false, a, T) : p_R)) v2) := by
  refine rb_meth (L := [.ref (rb_ad G 9 0), .long K, .null, .int (nI k), .int (nI m)]) (by decide) (Nat.le_of_ble_eq_true rfl) rfl (fun Z X Y => ?_)
  have X : rb_CX Z G cX5_partItem 5 RX5 5 := X
  refine rb_aload_n X (pc := 0) dX5_partItem_0 rfl rfl ?_
  refine rc_callVl X (pc := 1) cvX5_word mX5_253 rb_ob9 (qW1 hn hM7 ha) (by decide) rfl rfl (Nat.le_of_ble_eq_true rfl) dX5_partItem_1 ?_
  refine rb_lload_n X (pc := 4) dX5_partItem_4 rfl rfl ?_
  refine rb_lcmp X (pc := 5) dX5_partItem_5 ?_
  refine rb_if_ne X (pc := 6) (tgt := 47) dX5_partItem_6 (by decide) (fun c6 => ?_) (fun c6 => absurd (lg_eq0.mp c6) hK0)
  refine rb_vret (S := []) X (pc := 47) Y dX5_partItem_47 ?_
  exact ⟨rfl, v, rfl⟩
theorem qPi {G : rb_G} {g : rb_H} {M : rb_T} {n : Nat} (hn : n ≤ 120) (hM7 : M 7 0 = nI n) {v : Int32} {p : p_R} (hp : p.2.1 ≤ n) {i j q k m : Nat} {K : Int64} (hK : ∀ b, wH (M 6) n b = K ↔ tW (M 6) n b i = true) (hK0 : ¬ (0 : Int64) = K) (hk : k < 77) (he : ∀ (S : rb_T) (x : Int32), va_up (enc S) k x = enc (u2 S j q x)) (hm : m < 1000) : rb_M G 5 yX5_partItem cX5_partItem 5 none [.ref (rb_ad G 9 0), .long K, .int (nI k), .int (nI m)] (HS g M n p v) (fun r h2 => r = none ∧ ∃ v2, h2 = HS g M n (p_th p (p_part (M 6) n i (nI m) j q)) v2) := by
  obtain ⟨b, a, T⟩ := p
  cases b with
  | false => exact qPi_1 hn hM7 hp hK hK0 hk he hm
  | true =>
    by_cases hW : tW (M 6) n a i = true
    · by_cases hT : tM (M 6) n (tN (M 6) n a) (nI m) = true
      · exact qPi_T hn hM7 hp hK hK0 hk he hm hW hT
      · exact qPi_F hn hM7 hp hK hK0 hk he hm hW hT
    · exact qPi_no hn hM7 hp hK hK0 hk he hm hW
theorem p_part_9 {f : Nat → Int32} {n i j q c : Nat} {m : Int32} {T : rb_T} (hj : j ≠ 9) : (p_part f n i m j q c T).2.2 9 = T 9 := by
  unfold p_part
  split
  · split
    · exact u2_row (Ne.symm hj)
    · rfl
  · rfl
set_option maxRecDepth 100000 in
set_option maxHeartbeats 1000000 in
theorem qRi_A {G : rb_G} {g : rb_H} {M T : rb_T} {n : Nat} (hn : n ≤ 120) (hM7 : M 7 0 = nI n) {a : Nat} {v : Int32} (ha : a ≤ n) {kd : Int32} (hok : sp_ok T) (hf : (10 : Int32) ≤ T 4 0) : rb_M G 6 yX5_rumourItem cX5_rumourItem 4 none [.ref (rb_ad G 9 0), .int kd] (mh g M n a v 0 T) (fun r h2 => r = none ∧ ∃ v2, h2 = HS g M n (p_rum (M 6) n kd a T) v2) := by
  refine rb_meth (L := [.ref (rb_ad G 9 0), .int kd, .null, .null]) (by decide) (Nat.le_of_ble_eq_true rfl) rfl (fun Z X Y => ?_)
  have X : rb_CX Z G cX5_rumourItem 4 RX5 6 := X
  have hN1 := tN_le (f := M 6) ha
  have hN2 := tN_le (f := M 6) hN1.2
  have hN3 := tN_le (f := M 6) hN2.2
  have h10 := hok.2.1
  refine rb_aload_n X (pc := 0) dX5_rumourItem_0 rfl rfl ?_
  refine rb_aload_n X (pc := 1) dX5_rumourItem_1 rfl rfl ?_
  refine rc_getR X (pc := 2) fX5_7 rb_ob9 rfl dX5_rumourItem_2 ?_
  refine rb_iconst (v := 0) X (pc := 5) dX5_rumourItem_5 (by decide) ?_
  refine rc_ialdv X (pc := 6) 0 rb_ar9_0 ms_0 rfl (by decide) dX5_rumourItem_6 ?_
  refine rb_bipush (v := 10) X (pc := 7) dX5_rumourItem_7 (by decide) ?_
  refine rb_icmp_ge X (pc := 9) (tgt := 16) dX5_rumourItem_9 (by decide) (fun c9 => ?_) (fun c9 => absurd hf c9)
  refine rb_iconst (v := 0) X (pc := 16) dX5_rumourItem_16 (by decide) ?_
  refine rc_callVv X (pc := 17) cvX5_must mX5_249 rb_ob9 (qMf hn hM7) (by decide) rfl rfl (Nat.le_of_ble_eq_true rfl) dX5_rumourItem_17 ?_
  refine rb_aload_n X (pc := 20) dX5_rumourItem_20 rfl rfl ?_
  refine rb_aload_n X (pc := 21) dX5_rumourItem_21 rfl rfl ?_
  refine rc_callVl X (pc := 22) cvX5_word mX5_253 rb_ob9 (qW1 hn hM7 ha) (by decide) rfl rfl (Nat.le_of_ble_eq_true rfl) dX5_rumourItem_22 ?_
  refine rb_ldc2 X (pc := 25) dX5_rumourItem_25 kX5_272 ?_
  refine rb_lcmp X (pc := 28) dX5_rumourItem_28 ?_
  refine rb_if_ne X (pc := 29) (tgt := 36) dX5_rumourItem_29 (by decide) (fun c29 => ?_) (fun c29 => absurd (lg_eq0.mp c29) (by decide))
  refine rb_iconst (v := 0) X (pc := 36) dX5_rumourItem_36 (by decide) ?_
  refine rc_callVv X (pc := 37) cvX5_must mX5_249 rb_ob9 (qMw hn hM7 0) (by decide) rfl rfl (Nat.le_of_ble_eq_true rfl) dX5_rumourItem_37 ?_
  refine rb_aload_n X (pc := 40) dX5_rumourItem_40 rfl rfl ?_
  refine rb_iconst (v := 0) X (pc := 41) dX5_rumourItem_41 (by decide) ?_
  refine rb_bipush (v := 15) X (pc := 42) dX5_rumourItem_42 (by decide) ?_
  refine rc_callVv X (pc := 44) cvX5_number mX5_269 rb_ob9 (qNm1 hn hM7 _ _) (by decide) rfl rfl (Nat.le_of_ble_eq_true rfl) dX5_rumourItem_44 ?_
  refine rb_aload_n X (pc := 47) dX5_rumourItem_47 rfl rfl ?_
  refine rc_getI X (pc := 48) fX5_235 rb_ob9 rfl gp_11 dX5_rumourItem_48 ?_
  refine rb_if_eq X (pc := 51) (tgt := 55) dX5_rumourItem_51 (by decide) (fun c51 => absurd c51 (by decide)) (fun c51 => ?_)
  refine rb_vret (S := []) X (pc := 54) Y dX5_rumourItem_54 ?_
  have e : p_rum (M 6) n kd a T = (false, a, T) := by rw [p_rum, if_pos hf]
  exact ⟨rfl, _, by rw [e]; rfl⟩
set_option maxRecDepth 100000 in
set_option maxHeartbeats 1000000 in
theorem qRi_B {G : rb_G} {g : rb_H} {M T : rb_T} {n : Nat} (hn : n ≤ 120) (hM7 : M 7 0 = nI n) {a : Nat} {v : Int32} (ha : a ≤ n) {kd : Int32} (hok : sp_ok T) (hf : ¬ (10 : Int32) ≤ T 4 0) (hW : ¬ tW (M 6) n (tN (M 6) n a) 11 = true) : rb_M G 6 yX5_rumourItem cX5_rumourItem 4 none [.ref (rb_ad G 9 0), .int kd] (mh g M n a v 0 T) (fun r h2 => r = none ∧ ∃ v2, h2 = HS g M n (p_rum (M 6) n kd a T) v2) := by
  refine rb_meth (L := [.ref (rb_ad G 9 0), .int kd, .null, .null]) (by decide) (Nat.le_of_ble_eq_true rfl) rfl (fun Z X Y => ?_)
  have X : rb_CX Z G cX5_rumourItem 4 RX5 6 := X
  have hN1 := tN_le (f := M 6) ha
  have hN2 := tN_le (f := M 6) hN1.2
  have hN3 := tN_le (f := M 6) hN2.2
  have h10 := hok.2.1
  refine rb_aload_n X (pc := 0) dX5_rumourItem_0 rfl rfl ?_
  refine rb_aload_n X (pc := 1) dX5_rumourItem_1 rfl rfl ?_
  refine rc_getR X (pc := 2) fX5_7 rb_ob9 rfl dX5_rumourItem_2 ?_
  refine rb_iconst (v := 0) X (pc := 5) dX5_rumourItem_5 (by decide) ?_
  refine rc_ialdv X (pc := 6) 0 rb_ar9_0 ms_0 rfl (by decide) dX5_rumourItem_6 ?_
  refine rb_bipush (v := 10) X (pc := 7) dX5_rumourItem_7 (by decide) ?_
  refine rb_icmp_ge X (pc := 9) (tgt := 16) dX5_rumourItem_9 (by decide) (fun c9 => absurd c9 hf) (fun c9 => ?_)
  refine rb_iconst (v := 1) X (pc := 12) dX5_rumourItem_12 (by decide) ?_
  refine rb_goto X (pc := 13) (tgt := 17) dX5_rumourItem_13 (by decide) ?_
  refine rc_callVv X (pc := 17) cvX5_must mX5_249 rb_ob9 (qMt hn hM7 ha) (by decide) rfl rfl (Nat.le_of_ble_eq_true rfl) dX5_rumourItem_17 ?_
  refine rb_aload_n X (pc := 20) dX5_rumourItem_20 rfl rfl ?_
  refine rb_aload_n X (pc := 21) dX5_rumourItem_21 rfl rfl ?_
  refine rc_callVl X (pc := 22) cvX5_word mX5_253 rb_ob9 (qW0 hn hM7 hN1.2) (by decide) rfl rfl (Nat.le_of_ble_eq_true rfl) dX5_rumourItem_22 ?_
  refine rb_ldc2 X (pc := 25) dX5_rumourItem_25 kX5_272 ?_
  refine rb_lcmp X (pc := 28) dX5_rumourItem_28 ?_
  refine rb_if_ne X (pc := 29) (tgt := 36) dX5_rumourItem_29 (by decide) (fun c29 => ?_) (fun c29 => absurd (wK_11.mp (lg_eq0.mp c29)) hW)
  refine rb_iconst (v := 0) X (pc := 36) dX5_rumourItem_36 (by decide) ?_
  refine rc_callVv X (pc := 37) cvX5_must mX5_249 rb_ob9 (qMf hn hM7) (by decide) rfl rfl (Nat.le_of_ble_eq_true rfl) dX5_rumourItem_37 ?_
  refine rb_aload_n X (pc := 40) dX5_rumourItem_40 rfl rfl ?_
  refine rb_iconst (v := 0) X (pc := 41) dX5_rumourItem_41 (by decide) ?_
  refine rb_bipush (v := 15) X (pc := 42) dX5_rumourItem_42 (by decide) ?_
  refine rc_callVv X (pc := 44) cvX5_number mX5_269 rb_ob9 (qNm1 hn hM7 _ _) (by decide) rfl rfl (Nat.le_of_ble_eq_true rfl) dX5_rumourItem_44 ?_
  refine rb_aload_n X (pc := 47) dX5_rumourItem_47 rfl rfl ?_
  refine rc_getI X (pc := 48) fX5_235 rb_ob9 rfl gp_11 dX5_rumourItem_48 ?_
  refine rb_if_eq X (pc := 51) (tgt := 55) dX5_rumourItem_51 (by decide) (fun c51 => absurd c51 (by decide)) (fun c51 => ?_)
  refine rb_vret (S := []) X (pc := 54) Y dX5_rumourItem_54 ?_
  have e : p_rum (M 6) n kd a T = (false, (tN (M 6) n a), T) := by rw [p_rum, if_neg hf, if_neg hW]
  exact ⟨rfl, _, by rw [e]; rfl⟩
set_option maxRecDepth 100000 in
set_option maxHeartbeats 1000000 in
theorem qRi_C {G : rb_G} {g : rb_H} {M T : rb_T} {n : Nat} (hn : n ≤ 120) (hM7 : M 7 0 = nI n) {a : Nat} {v : Int32} (ha : a ≤ n) {kd : Int32} (hok : sp_ok T) (hf : ¬ (10 : Int32) ≤ T 4 0) (hW : tW (M 6) n (tN (M 6) n a) 11 = true) (hT : ¬ tM (M 6) n (tN (M 6) n (tN (M 6) n a)) 15 = true) : rb_M G 6 yX5_rumourItem cX5_rumourItem 4 none [.ref (rb_ad G 9 0), .int kd] (mh g M n a v 0 T) (fun r h2 => r = none ∧ ∃ v2, h2 = HS g M n (p_rum (M 6) n kd a T) v2) := by
  refine rb_meth (L := [.ref (rb_ad G 9 0), .int kd, .null, .null]) (by decide) (Nat.le_of_ble_eq_true rfl) rfl (fun Z X Y => ?_)
  have X : rb_CX Z G cX5_rumourItem 4 RX5 6 := X
  have hN1 := tN_le (f := M 6) ha
  have hN2 := tN_le (f := M 6) hN1.2
  have hN3 := tN_le (f := M 6) hN2.2
  have h10 := hok.2.1
  refine rb_aload_n X (pc := 0) dX5_rumourItem_0 rfl rfl ?_
  refine rb_aload_n X (pc := 1) dX5_rumourItem_1 rfl rfl ?_
  refine rc_getR X (pc := 2) fX5_7 rb_ob9 rfl dX5_rumourItem_2 ?_
  refine rb_iconst (v := 0) X (pc := 5) dX5_rumourItem_5 (by decide) ?_
  refine rc_ialdv X (pc := 6) 0 rb_ar9_0 ms_0 rfl (by decide) dX5_rumourItem_6 ?_
  refine rb_bipush (v := 10) X (pc := 7) dX5_rumourItem_7 (by decide) ?_
  refine rb_icmp_ge X (pc := 9) (tgt := 16) dX5_rumourItem_9 (by decide) (fun c9 => absurd c9 hf) (fun c9 => ?_)
  refine rb_iconst (v := 1) X (pc := 12) dX5_rumourItem_12 (by decide) ?_
  refine rb_goto X (pc := 13) (tgt := 17) dX5_rumourItem_13 (by decide) ?_
  refine rc_callVv X (pc := 17) cvX5_must mX5_249 rb_ob9 (qMt hn hM7 ha) (by decide) rfl rfl (Nat.le_of_ble_eq_true rfl) dX5_rumourItem_17 ?_
  refine rb_aload_n X (pc := 20) dX5_rumourItem_20 rfl rfl ?_
  refine rb_aload_n X (pc := 21) dX5_rumourItem_21 rfl rfl ?_
  refine rc_callVl X (pc := 22) cvX5_word mX5_253 rb_ob9 (qW0 hn hM7 hN1.2) (by decide) rfl rfl (Nat.le_of_ble_eq_true rfl) dX5_rumourItem_22 ?_
  refine rb_ldc2 X (pc := 25) dX5_rumourItem_25 kX5_272 ?_
  refine rb_lcmp X (pc := 28) dX5_rumourItem_28 ?_
  refine rb_if_ne X (pc := 29) (tgt := 36) dX5_rumourItem_29 (by decide) (fun c29 => absurd (lg_eq0.mpr (wK_11.mpr hW)) c29) (fun c29 => ?_)
  refine rb_iconst (v := 1) X (pc := 32) dX5_rumourItem_32 (by decide) ?_
  refine rb_goto X (pc := 33) (tgt := 37) dX5_rumourItem_33 (by decide) ?_
  refine rc_callVv X (pc := 37) cvX5_must mX5_249 rb_ob9 (qMt hn hM7 hN1.2) (by decide) rfl rfl (Nat.le_of_ble_eq_true rfl) dX5_rumourItem_37 ?_
  refine rb_aload_n X (pc := 40) dX5_rumourItem_40 rfl rfl ?_
  refine rb_iconst (v := 0) X (pc := 41) dX5_rumourItem_41 (by decide) ?_
  refine rb_bipush (v := 15) X (pc := 42) dX5_rumourItem_42 (by decide) ?_
  refine rc_callVv X (pc := 44) cvX5_number mX5_269 rb_ob9 (qNmF (m := 15) hn hM7 hN2.2 (by decide) hT) (by decide) rfl rfl (Nat.le_of_ble_eq_true rfl) dX5_rumourItem_44 ?_
  refine rb_aload_n X (pc := 47) dX5_rumourItem_47 rfl rfl ?_
  refine rc_getI X (pc := 48) fX5_235 rb_ob9 rfl gp_11 dX5_rumourItem_48 ?_
  refine rb_if_eq X (pc := 51) (tgt := 55) dX5_rumourItem_51 (by decide) (fun c51 => absurd c51 (by decide)) (fun c51 => ?_)
  refine rb_vret (S := []) X (pc := 54) Y dX5_rumourItem_54 ?_
  have e : p_rum (M 6) n kd a T = (false, (tN (M 6) n (tN (M 6) n a)), T) := by rw [p_rum, if_neg hf, if_pos hW, p_rum2, if_neg hT]
  exact ⟨rfl, _, by rw [e]; rfl⟩
set_option maxRecDepth 100000 in
set_option maxHeartbeats 1000000 in
theorem qRi_D1 {G : rb_G} {g : rb_H} {M T : rb_T} {n : Nat} (hn : n ≤ 120) (hM7 : M 7 0 = nI n) {a : Nat} {v : Int32} (ha : a ≤ n) {kd : Int32} (hok : sp_ok T) (hf : ¬ (10 : Int32) ≤ T 4 0) (hW : tW (M 6) n (tN (M 6) n a) 11 = true) (hT : tM (M 6) n (tN (M 6) n (tN (M 6) n a)) 15 = true) (hkd : ∃ q, q < 6 ∧ kd = nI q) (hP : ¬ (p_part (M 6) n 12 99 7 (sp_n T) (tN (M 6) n (tN (M 6) n (tN (M 6) n a))) (sp_add T kd (tV (M 6) n (tN (M 6) n (tN (M 6) n a))) 10)).1 = true) : rb_M G 6 yX5_rumourItem cX5_rumourItem 4 none [.ref (rb_ad G 9 0), .int kd] (mh g M n a v 0 T) (fun r h2 => r = none ∧ ∃ v2, h2 = HS g M n (p_rum (M 6) n kd a T) v2) := by
  refine rb_meth (L := [.ref (rb_ad G 9 0), .int kd, .null, .null]) (by decide) (Nat.le_of_ble_eq_true rfl) rfl (fun Z X Y => ?_)
  have X : rb_CX Z G cX5_rumourItem 4 RX5 6 := X
  have hN1 := tN_le (f := M 6) ha
  have hN2 := tN_le (f := M 6) hN1.2
  have hN3 := tN_le (f := M 6) hN2.2
  have h10 := hok.2.1
  have hnf : sp_n T < 10 := by
    rcases Nat.lt_or_ge (sp_n T) 10 with z | z
    · exact z
    · exact absurd (by rw [hok.1]; exact (nI_leI (a := 10) (by omega) (by omega)).mpr z) hf
  obtain ⟨tv, htv, etv⟩ := tM_of (m := 15) (by decide) hT
  have hokA : sp_ok (sp_add T kd (tV (M 6) n (tN (M 6) n (tN (M 6) n a))) 10) := sp_add_ok hok hnf hkd ⟨tv, by omega, etv⟩ ⟨10, by omega, rfl⟩
  have hokP : sp_ok (p_part (M 6) n 12 99 7 (sp_n T) (tN (M 6) n (tN (M 6) n (tN (M 6) n a))) (sp_add T kd (tV (M 6) n (tN (M 6) n (tN (M 6) n a))) 10)).2.2 := p_part_ok (m := 99) (by decide) hokA (fun v hv => ok_u7 hokA hv)
  have hle : (p_part (M 6) n 12 99 7 (sp_n T) (tN (M 6) n (tN (M 6) n (tN (M 6) n a))) (sp_add T kd (tV (M 6) n (tN (M 6) n (tN (M 6) n a))) 10)).2.1 ≤ n := p_part_le hN3.2
  have h9 : (p_part (M 6) n 12 99 7 (sp_n T) (tN (M 6) n (tN (M 6) n (tN (M 6) n a))) (sp_add T kd (tV (M 6) n (tN (M 6) n (tN (M 6) n a))) 10)).2.2 9 (sp_n T) = -1 := by rw [p_part_9 (by decide), sp_add_9, if_pos rfl]
  refine rb_aload_n X (pc := 0) dX5_rumourItem_0 rfl rfl ?_
  refine rb_aload_n X (pc := 1) dX5_rumourItem_1 rfl rfl ?_
  refine rc_getR X (pc := 2) fX5_7 rb_ob9 rfl dX5_rumourItem_2 ?_
  refine rb_iconst (v := 0) X (pc := 5) dX5_rumourItem_5 (by decide) ?_
  refine rc_ialdv X (pc := 6) 0 rb_ar9_0 ms_0 rfl (by decide) dX5_rumourItem_6 ?_
  refine rb_bipush (v := 10) X (pc := 7) dX5_rumourItem_7 (by decide) ?_
  refine rb_icmp_ge X (pc := 9) (tgt := 16) dX5_rumourItem_9 (by decide) (fun c9 => absurd c9 hf) (fun c9 => ?_)
  refine rb_iconst (v := 1) X (pc := 12) dX5_rumourItem_12 (by decide) ?_
  refine rb_goto X (pc := 13) (tgt := 17) dX5_rumourItem_13 (by decide) ?_
  refine rc_callVv X (pc := 17) cvX5_must mX5_249 rb_ob9 (qMt hn hM7 ha) (by decide) rfl rfl (Nat.le_of_ble_eq_true rfl) dX5_rumourItem_17 ?_
  refine rb_aload_n X (pc := 20) dX5_rumourItem_20 rfl rfl ?_
  refine rb_aload_n X (pc := 21) dX5_rumourItem_21 rfl rfl ?_
  refine rc_callVl X (pc := 22) cvX5_word mX5_253 rb_ob9 (qW0 hn hM7 hN1.2) (by decide) rfl rfl (Nat.le_of_ble_eq_true rfl) dX5_rumourItem_22 ?_
  refine rb_ldc2 X (pc := 25) dX5_rumourItem_25 kX5_272 ?_
  refine rb_lcmp X (pc := 28) dX5_rumourItem_28 ?_
  refine rb_if_ne X (pc := 29) (tgt := 36) dX5_rumourItem_29 (by decide) (fun c29 => absurd (lg_eq0.mpr (wK_11.mpr hW)) c29) (fun c29 => ?_)
  refine rb_iconst (v := 1) X (pc := 32) dX5_rumourItem_32 (by decide) ?_
  refine rb_goto X (pc := 33) (tgt := 37) dX5_rumourItem_33 (by decide) ?_
  refine rc_callVv X (pc := 37) cvX5_must mX5_249 rb_ob9 (qMt hn hM7 hN1.2) (by decide) rfl rfl (Nat.le_of_ble_eq_true rfl) dX5_rumourItem_37 ?_
  refine rb_aload_n X (pc := 40) dX5_rumourItem_40 rfl rfl ?_
  refine rb_iconst (v := 0) X (pc := 41) dX5_rumourItem_41 (by decide) ?_
  refine rb_bipush (v := 15) X (pc := 42) dX5_rumourItem_42 (by decide) ?_
  refine rc_callVv X (pc := 44) cvX5_number mX5_269 rb_ob9 (qNmT (m := 15) hn hM7 hN2.2 (by decide) hT) (by decide) rfl rfl (Nat.le_of_ble_eq_true rfl) dX5_rumourItem_44 ?_
  refine rb_aload_n X (pc := 47) dX5_rumourItem_47 rfl rfl ?_
  refine rc_getI X (pc := 48) fX5_235 rb_ob9 rfl gp_11 dX5_rumourItem_48 ?_
  refine rb_if_eq X (pc := 51) (tgt := 55) dX5_rumourItem_51 (by decide) (fun c51 => ?_) (fun c51 => absurd rfl c51)
  refine rb_aload_n X (pc := 55) dX5_rumourItem_55 rfl rfl ?_
  refine rb_iload_n X (pc := 56) dX5_rumourItem_56 rfl rfl ?_
  refine rb_aload_n X (pc := 57) dX5_rumourItem_57 rfl rfl ?_
  refine rc_getI X (pc := 58) fX5_246 rb_ob9 rfl (gp_10.trans (nv_V (m := 15) (by decide) hT)) dX5_rumourItem_58 ?_
  refine rc_callVi X (pc := 61) cvX5_adds mX5_103 rb_ob9 (qX5_adds hok.1 hok.2.1 hnf _ _) (by decide) rfl rfl (Nat.le_of_ble_eq_true rfl) dX5_rumourItem_61 ?_
  refine rb_istore_n X (pc := 64) dX5_rumourItem_64 rfl (by decide) rfl rfl ?_
  refine rb_aload_n X (pc := 65) dX5_rumourItem_65 rfl rfl ?_
  refine rb_ldc2 X (pc := 66) dX5_rumourItem_66 kX5_274 ?_
  refine rb_iload_n X (pc := 69) dX5_rumourItem_69 rfl rfl ?_
  refine rb_iconst (v := 2) X (pc := 70) dX5_rumourItem_70 (by decide) ?_
  refine rc_callSi X (pc := 71) cvX5_spotOf mX5_56 (qX5_spotOf (w := 2)) (by decide) rfl rfl (Nat.le_of_ble_eq_true rfl) dX5_rumourItem_71 ?_
  refine rb_bipush (v := 99) X (pc := 74) dX5_rumourItem_74 (by decide) ?_
  refine rc_callV X (pc := 76) cvX5_partItem mX5_276 rb_ob9 (qPi (p := (true, (tN (M 6) n (tN (M 6) n (tN (M 6) n a))), (sp_add T kd (tV (M 6) n (tN (M 6) n (tN (M 6) n a))) 10))) (i := 12) (j := 7) (q := sp_n T) (k := 27 + 5 * sp_n T + 2) (m := 99) hn hM7 hN3.2 (fun b => wK_12) (by decide) (by omega) (fun S x => enc_ur hnf (by decide)) (by decide)) (by decide) rfl rfl (Nat.le_of_ble_eq_true rfl) dX5_rumourItem_76 (fun r_76 h_76 p_76 => ?_)
  obtain ⟨rfl, v2, rfl⟩ := p_76
  refine sp_goS (S' := []) rfl ?_
  refine sp_go (h' := mh g M n (p_part (M 6) n 12 99 7 (sp_n T) (tN (M 6) n (tN (M 6) n (tN (M 6) n a))) (sp_add T kd (tV (M 6) n (tN (M 6) n (tN (M 6) n a))) 10)).2.1 v2 1 (p_part (M 6) n 12 99 7 (sp_n T) (tN (M 6) n (tN (M 6) n (tN (M 6) n a))) (sp_add T kd (tV (M 6) n (tN (M 6) n (tN (M 6) n a))) 10)).2.2) rfl (by rw [p_th_t rfl]; show mh g M n (p_part (M 6) n 12 99 7 (sp_n T) (tN (M 6) n (tN (M 6) n (tN (M 6) n a))) (sp_add T kd (tV (M 6) n (tN (M 6) n (tN (M 6) n a))) 10)).2.1 v2 (if (p_part (M 6) n 12 99 7 (sp_n T) (tN (M 6) n (tN (M 6) n (tN (M 6) n a))) (sp_add T kd (tV (M 6) n (tN (M 6) n (tN (M 6) n a))) 10)).1 = true then 0 else 1) (p_part (M 6) n 12 99 7 (sp_n T) (tN (M 6) n (tN (M 6) n (tN (M 6) n a))) (sp_add T kd (tV (M 6) n (tN (M 6) n (tN (M 6) n a))) 10)).2.2 = _; rw [if_neg hP]) ?_
  refine rb_aload_n X (pc := 79) dX5_rumourItem_79 rfl rfl ?_
  refine rc_callVl X (pc := 80) cvX5_word mX5_253 rb_ob9 (qW1 hn hM7 hle) (by decide) rfl rfl (Nat.le_of_ble_eq_true rfl) dX5_rumourItem_80 ?_
  refine rb_ldc2 X (pc := 83) dX5_rumourItem_83 kX5_280 ?_
  refine rb_lcmp X (pc := 86) dX5_rumourItem_86 ?_
  refine rb_if_ne X (pc := 87) (tgt := 146) dX5_rumourItem_87 (by decide) (fun c87 => ?_) (fun c87 => absurd (lg_eq0.mp c87) (by decide))
  refine rb_vret (S := []) X (pc := 146) Y dX5_rumourItem_146 ?_
  have e : p_rum (M 6) n kd a T = (p_part (M 6) n 12 99 7 (sp_n T) (tN (M 6) n (tN (M 6) n (tN (M 6) n a))) (sp_add T kd (tV (M 6) n (tN (M 6) n (tN (M 6) n a))) 10)) := by rw [p_rum, if_neg hf, if_pos hW, p_rum2, if_pos hT, p_th_f hP]
  exact ⟨rfl, v2, by rw [e]; show _ = mh g M n (p_part (M 6) n 12 99 7 (sp_n T) (tN (M 6) n (tN (M 6) n (tN (M 6) n a))) (sp_add T kd (tV (M 6) n (tN (M 6) n (tN (M 6) n a))) 10)).2.1 v2 (if (p_part (M 6) n 12 99 7 (sp_n T) (tN (M 6) n (tN (M 6) n (tN (M 6) n a))) (sp_add T kd (tV (M 6) n (tN (M 6) n (tN (M 6) n a))) 10)).1 = true then 0 else 1) (p_part (M 6) n 12 99 7 (sp_n T) (tN (M 6) n (tN (M 6) n (tN (M 6) n a))) (sp_add T kd (tV (M 6) n (tN (M 6) n (tN (M 6) n a))) 10)).2.2; rw [if_neg hP]⟩
set_option maxRecDepth 100000 in
set_option maxHeartbeats 1000000 in
theorem qRi_D2 {G : rb_G} {g : rb_H} {M T : rb_T} {n : Nat} (hn : n ≤ 120) (hM7 : M 7 0 = nI n) {a : Nat} {v : Int32} (ha : a ≤ n) {kd : Int32} (hok : sp_ok T) (hf : ¬ (10 : Int32) ≤ T 4 0) (hW : tW (M 6) n (tN (M 6) n a) 11 = true) (hT : tM (M 6) n (tN (M 6) n (tN (M 6) n a)) 15 = true) (hkd : ∃ q, q < 6 ∧ kd = nI q) (hP : (p_part (M 6) n 12 99 7 (sp_n T) (tN (M 6) n (tN (M 6) n (tN (M 6) n a))) (sp_add T kd (tV (M 6) n (tN (M 6) n (tN (M 6) n a))) 10)).1 = true) (hI : ¬ tW (M 6) n (p_part (M 6) n 12 99 7 (sp_n T) (tN (M 6) n (tN (M 6) n (tN (M 6) n a))) (sp_add T kd (tV (M 6) n (tN (M 6) n (tN (M 6) n a))) 10)).2.1 13 = true) : rb_M G 6 yX5_rumourItem cX5_rumourItem 4 none [.ref (rb_ad G 9 0), .int kd] (mh g M n a v 0 T) (fun r h2 => r = none ∧ ∃ v2, h2 = HS g M n (p_rum (M 6) n kd a T) v2) := by
  refine rb_meth (L := [.ref (rb_ad G 9 0), .int kd, .null, .null]) (by decide) (Nat.le_of_ble_eq_true rfl) rfl (fun Z X Y => ?_)
  have X : rb_CX Z G cX5_rumourItem 4 RX5 6 := X
  have hN1 := tN_le (f := M 6) ha
  have hN2 := tN_le (f := M 6) hN1.2
  have hN3 := tN_le (f := M 6) hN2.2
  have h10 := hok.2.1
  have hnf : sp_n T < 10 := by
    rcases Nat.lt_or_ge (sp_n T) 10 with z | z
    · exact z
    · exact absurd (by rw [hok.1]; exact (nI_leI (a := 10) (by omega) (by omega)).mpr z) hf
  obtain ⟨tv, htv, etv⟩ := tM_of (m := 15) (by decide) hT
  have hokA : sp_ok (sp_add T kd (tV (M 6) n (tN (M 6) n (tN (M 6) n a))) 10) := sp_add_ok hok hnf hkd ⟨tv, by omega, etv⟩ ⟨10, by omega, rfl⟩
  have hokP : sp_ok (p_part (M 6) n 12 99 7 (sp_n T) (tN (M 6) n (tN (M 6) n (tN (M 6) n a))) (sp_add T kd (tV (M 6) n (tN (M 6) n (tN (M 6) n a))) 10)).2.2 := p_part_ok (m := 99) (by decide) hokA (fun v hv => ok_u7 hokA hv)
  have hle : (p_part (M 6) n 12 99 7 (sp_n T) (tN (M 6) n (tN (M 6) n (tN (M 6) n a))) (sp_add T kd (tV (M 6) n (tN (M 6) n (tN (M 6) n a))) 10)).2.1 ≤ n := p_part_le hN3.2
  have h9 : (p_part (M 6) n 12 99 7 (sp_n T) (tN (M 6) n (tN (M 6) n (tN (M 6) n a))) (sp_add T kd (tV (M 6) n (tN (M 6) n (tN (M 6) n a))) 10)).2.2 9 (sp_n T) = -1 := by rw [p_part_9 (by decide), sp_add_9, if_pos rfl]
  refine rb_aload_n X (pc := 0) dX5_rumourItem_0 rfl rfl ?_
  refine rb_aload_n X (pc := 1) dX5_rumourItem_1 rfl rfl ?_
  refine rc_getR X (pc := 2) fX5_7 rb_ob9 rfl dX5_rumourItem_2 ?_
  refine rb_iconst (v := 0) X (pc := 5) dX5_rumourItem_5 (by decide) ?_
  refine rc_ialdv X (pc := 6) 0 rb_ar9_0 ms_0 rfl (by decide) dX5_rumourItem_6 ?_
  refine rb_bipush (v := 10) X (pc := 7) dX5_rumourItem_7 (by decide) ?_
  refine rb_icmp_ge X (pc := 9) (tgt := 16) dX5_rumourItem_9 (by decide) (fun c9 => absurd c9 hf) (fun c9 => ?_)
  refine rb_iconst (v := 1) X (pc := 12) dX5_rumourItem_12 (by decide) ?_
  refine rb_goto X (pc := 13) (tgt := 17) dX5_rumourItem_13 (by decide) ?_
  refine rc_callVv X (pc := 17) cvX5_must mX5_249 rb_ob9 (qMt hn hM7 ha) (by decide) rfl rfl (Nat.le_of_ble_eq_true rfl) dX5_rumourItem_17 ?_
  refine rb_aload_n X (pc := 20) dX5_rumourItem_20 rfl rfl ?_
  refine rb_aload_n X (pc := 21) dX5_rumourItem_21 rfl rfl ?_
  refine rc_callVl X (pc := 22) cvX5_word mX5_253 rb_ob9 (qW0 hn hM7 hN1.2) (by decide) rfl rfl (Nat.le_of_ble_eq_true rfl) dX5_rumourItem_22 ?_
  refine rb_ldc2 X (pc := 25) dX5_rumourItem_25 kX5_272 ?_
  refine rb_lcmp X (pc := 28) dX5_rumourItem_28 ?_
  refine rb_if_ne X (pc := 29) (tgt := 36) dX5_rumourItem_29 (by decide) (fun c29 => absurd (lg_eq0.mpr (wK_11.mpr hW)) c29) (fun c29 => ?_)
  refine rb_iconst (v := 1) X (pc := 32) dX5_rumourItem_32 (by decide) ?_
  refine rb_goto X (pc := 33) (tgt := 37) dX5_rumourItem_33 (by decide) ?_
  refine rc_callVv X (pc := 37) cvX5_must mX5_249 rb_ob9 (qMt hn hM7 hN1.2) (by decide) rfl rfl (Nat.le_of_ble_eq_true rfl) dX5_rumourItem_37 ?_
  refine rb_aload_n X (pc := 40) dX5_rumourItem_40 rfl rfl ?_
  refine rb_iconst (v := 0) X (pc := 41) dX5_rumourItem_41 (by decide) ?_
  refine rb_bipush (v := 15) X (pc := 42) dX5_rumourItem_42 (by decide) ?_
  refine rc_callVv X (pc := 44) cvX5_number mX5_269 rb_ob9 (qNmT (m := 15) hn hM7 hN2.2 (by decide) hT) (by decide) rfl rfl (Nat.le_of_ble_eq_true rfl) dX5_rumourItem_44 ?_
  refine rb_aload_n X (pc := 47) dX5_rumourItem_47 rfl rfl ?_
  refine rc_getI X (pc := 48) fX5_235 rb_ob9 rfl gp_11 dX5_rumourItem_48 ?_
  refine rb_if_eq X (pc := 51) (tgt := 55) dX5_rumourItem_51 (by decide) (fun c51 => ?_) (fun c51 => absurd rfl c51)
  refine rb_aload_n X (pc := 55) dX5_rumourItem_55 rfl rfl ?_
  refine rb_iload_n X (pc := 56) dX5_rumourItem_56 rfl rfl ?_
  refine rb_aload_n X (pc := 57) dX5_rumourItem_57 rfl rfl ?_
  refine rc_getI X (pc := 58) fX5_246 rb_ob9 rfl (gp_10.trans (nv_V (m := 15) (by decide) hT)) dX5_rumourItem_58 ?_
  refine rc_callVi X (pc := 61) cvX5_adds mX5_103 rb_ob9 (qX5_adds hok.1 hok.2.1 hnf _ _) (by decide) rfl rfl (Nat.le_of_ble_eq_true rfl) dX5_rumourItem_61 ?_
  refine rb_istore_n X (pc := 64) dX5_rumourItem_64 rfl (by decide) rfl rfl ?_
  refine rb_aload_n X (pc := 65) dX5_rumourItem_65 rfl rfl ?_
  refine rb_ldc2 X (pc := 66) dX5_rumourItem_66 kX5_274 ?_
  refine rb_iload_n X (pc := 69) dX5_rumourItem_69 rfl rfl ?_
  refine rb_iconst (v := 2) X (pc := 70) dX5_rumourItem_70 (by decide) ?_
  refine rc_callSi X (pc := 71) cvX5_spotOf mX5_56 (qX5_spotOf (w := 2)) (by decide) rfl rfl (Nat.le_of_ble_eq_true rfl) dX5_rumourItem_71 ?_
  refine rb_bipush (v := 99) X (pc := 74) dX5_rumourItem_74 (by decide) ?_
  refine rc_callV X (pc := 76) cvX5_partItem mX5_276 rb_ob9 (qPi (p := (true, (tN (M 6) n (tN (M 6) n (tN (M 6) n a))), (sp_add T kd (tV (M 6) n (tN (M 6) n (tN (M 6) n a))) 10))) (i := 12) (j := 7) (q := sp_n T) (k := 27 + 5 * sp_n T + 2) (m := 99) hn hM7 hN3.2 (fun b => wK_12) (by decide) (by omega) (fun S x => enc_ur hnf (by decide)) (by decide)) (by decide) rfl rfl (Nat.le_of_ble_eq_true rfl) dX5_rumourItem_76 (fun r_76 h_76 p_76 => ?_)
  obtain ⟨rfl, v2, rfl⟩ := p_76
  refine sp_goS (S' := []) rfl ?_
  refine sp_go (h' := mh g M n (p_part (M 6) n 12 99 7 (sp_n T) (tN (M 6) n (tN (M 6) n (tN (M 6) n a))) (sp_add T kd (tV (M 6) n (tN (M 6) n (tN (M 6) n a))) 10)).2.1 v2 0 (p_part (M 6) n 12 99 7 (sp_n T) (tN (M 6) n (tN (M 6) n (tN (M 6) n a))) (sp_add T kd (tV (M 6) n (tN (M 6) n (tN (M 6) n a))) 10)).2.2) rfl (by rw [p_th_t rfl]; show mh g M n (p_part (M 6) n 12 99 7 (sp_n T) (tN (M 6) n (tN (M 6) n (tN (M 6) n a))) (sp_add T kd (tV (M 6) n (tN (M 6) n (tN (M 6) n a))) 10)).2.1 v2 (if (p_part (M 6) n 12 99 7 (sp_n T) (tN (M 6) n (tN (M 6) n (tN (M 6) n a))) (sp_add T kd (tV (M 6) n (tN (M 6) n (tN (M 6) n a))) 10)).1 = true then 0 else 1) (p_part (M 6) n 12 99 7 (sp_n T) (tN (M 6) n (tN (M 6) n (tN (M 6) n a))) (sp_add T kd (tV (M 6) n (tN (M 6) n (tN (M 6) n a))) 10)).2.2 = _; rw [if_pos hP]) ?_
  refine rb_aload_n X (pc := 79) dX5_rumourItem_79 rfl rfl ?_
  refine rc_callVl X (pc := 80) cvX5_word mX5_253 rb_ob9 (qW0 hn hM7 hle) (by decide) rfl rfl (Nat.le_of_ble_eq_true rfl) dX5_rumourItem_80 ?_
  refine rb_ldc2 X (pc := 83) dX5_rumourItem_83 kX5_280 ?_
  refine rb_lcmp X (pc := 86) dX5_rumourItem_86 ?_
  refine rb_if_ne X (pc := 87) (tgt := 146) dX5_rumourItem_87 (by decide) (fun c87 => ?_) (fun c87 => absurd (wK_13.mp (lg_eq0.mp c87)) hI)
  refine rb_vret (S := []) X (pc := 146) Y dX5_rumourItem_146 ?_
  have e : p_rum (M 6) n kd a T = (true, (p_part (M 6) n 12 99 7 (sp_n T) (tN (M 6) n (tN (M 6) n (tN (M 6) n a))) (sp_add T kd (tV (M 6) n (tN (M 6) n (tN (M 6) n a))) 10)).2.1, (p_part (M 6) n 12 99 7 (sp_n T) (tN (M 6) n (tN (M 6) n (tN (M 6) n a))) (sp_add T kd (tV (M 6) n (tN (M 6) n (tN (M 6) n a))) 10)).2.2) := by rw [p_rum, if_neg hf, if_pos hW, p_rum2, if_pos hT, p_th_t hP, p_lod, if_neg hI]
  exact ⟨rfl, v2, by rw [e]; rfl⟩
set_option maxRecDepth 100000 in
set_option maxHeartbeats 1000000 in
theorem qRi_D3 {G : rb_G} {g : rb_H} {M T : rb_T} {n : Nat} (hn : n ≤ 120) (hM7 : M 7 0 = nI n) {a : Nat} {v : Int32} (ha : a ≤ n) {kd : Int32} (hok : sp_ok T) (hf : ¬ (10 : Int32) ≤ T 4 0) (hW : tW (M 6) n (tN (M 6) n a) 11 = true) (hT : tM (M 6) n (tN (M 6) n (tN (M 6) n a)) 15 = true) (hkd : ∃ q, q < 6 ∧ kd = nI q) (hP : (p_part (M 6) n 12 99 7 (sp_n T) (tN (M 6) n (tN (M 6) n (tN (M 6) n a))) (sp_add T kd (tV (M 6) n (tN (M 6) n (tN (M 6) n a))) 10)).1 = true) (hI : tW (M 6) n (p_part (M 6) n 12 99 7 (sp_n T) (tN (M 6) n (tN (M 6) n (tN (M 6) n a))) (sp_add T kd (tV (M 6) n (tN (M 6) n (tN (M 6) n a))) 10)).2.1 13 = true) (hO : (tM (M 6) n (tN (M 6) n (p_part (M 6) n 12 99 7 (sp_n T) (tN (M 6) n (tN (M 6) n (tN (M 6) n a))) (sp_add T kd (tV (M 6) n (tN (M 6) n (tN (M 6) n a))) 10)).2.1) 7 && sp_free (p_part (M 6) n 12 99 7 (sp_n T) (tN (M 6) n (tN (M 6) n (tN (M 6) n a))) (sp_add T kd (tV (M 6) n (tN (M 6) n (tN (M 6) n a))) 10)).2.2 (ix (tV (M 6) n (tN (M 6) n (p_part (M 6) n 12 99 7 (sp_n T) (tN (M 6) n (tN (M 6) n (tN (M 6) n a))) (sp_add T kd (tV (M 6) n (tN (M 6) n (tN (M 6) n a))) 10)).2.1)))) = true) : rb_M G 6 yX5_rumourItem cX5_rumourItem 4 none [.ref (rb_ad G 9 0), .int kd] (mh g M n a v 0 T) (fun r h2 => r = none ∧ ∃ v2, h2 = HS g M n (p_rum (M 6) n kd a T) v2) := by
  refine rb_meth (L := [.ref (rb_ad G 9 0), .int kd, .null, .null]) (by decide) (Nat.le_of_ble_eq_true rfl) rfl (fun Z X Y => ?_)
  have X : rb_CX Z G cX5_rumourItem 4 RX5 6 := X
  have hN1 := tN_le (f := M 6) ha
  have hN2 := tN_le (f := M 6) hN1.2
  have hN3 := tN_le (f := M 6) hN2.2
  have h10 := hok.2.1
  have hnf : sp_n T < 10 := by
    rcases Nat.lt_or_ge (sp_n T) 10 with z | z
    · exact z
    · exact absurd (by rw [hok.1]; exact (nI_leI (a := 10) (by omega) (by omega)).mpr z) hf
  obtain ⟨tv, htv, etv⟩ := tM_of (m := 15) (by decide) hT
  have hokA : sp_ok (sp_add T kd (tV (M 6) n (tN (M 6) n (tN (M 6) n a))) 10) := sp_add_ok hok hnf hkd ⟨tv, by omega, etv⟩ ⟨10, by omega, rfl⟩
  have hokP : sp_ok (p_part (M 6) n 12 99 7 (sp_n T) (tN (M 6) n (tN (M 6) n (tN (M 6) n a))) (sp_add T kd (tV (M 6) n (tN (M 6) n (tN (M 6) n a))) 10)).2.2 := p_part_ok (m := 99) (by decide) hokA (fun v hv => ok_u7 hokA hv)
  have hle : (p_part (M 6) n 12 99 7 (sp_n T) (tN (M 6) n (tN (M 6) n (tN (M 6) n a))) (sp_add T kd (tV (M 6) n (tN (M 6) n (tN (M 6) n a))) 10)).2.1 ≤ n := p_part_le hN3.2
  have h9 : (p_part (M 6) n 12 99 7 (sp_n T) (tN (M 6) n (tN (M 6) n (tN (M 6) n a))) (sp_add T kd (tV (M 6) n (tN (M 6) n (tN (M 6) n a))) 10)).2.2 9 (sp_n T) = -1 := by rw [p_part_9 (by decide), sp_add_9, if_pos rfl]
  have hA1 := tN_le (f := M 6) hle
  have hA2 := tN_le (f := M 6) hA1.2
  obtain ⟨o1, o2⟩ := Bool.and_eq_true_iff.mp hO
  obtain ⟨vv, hvv, ev⟩ := tM_of (m := 7) (by decide) o1
  have ei : ix (tV (M 6) n (tN (M 6) n (p_part (M 6) n 12 99 7 (sp_n T) (tN (M 6) n (tN (M 6) n (tN (M 6) n a))) (sp_add T kd (tV (M 6) n (tN (M 6) n (tN (M 6) n a))) 10)).2.1)) = vv := by rw [ev]; exact nI_clamp (by omega)
  have hS2 : tS (M 6) n (tN (M 6) n (p_part (M 6) n 12 99 7 (sp_n T) (tN (M 6) n (tN (M 6) n (tN (M 6) n a))) (sp_add T kd (tV (M 6) n (tN (M 6) n (tN (M 6) n a))) 10)).2.1) = 2 := (of_decide_eq_true o1).1
  have hH : iH (nI vv) = true := by simp only [iH, decide_eq_true_eq]; exact ⟨nI_pos' (by omega), (nI_ltI (b := 8) (by omega) (by omega)).mpr (by omega)⟩
  have hF : sp_free (p_part (M 6) n 12 99 7 (sp_n T) (tN (M 6) n (tN (M 6) n (tN (M 6) n a))) (sp_add T kd (tV (M 6) n (tN (M 6) n (tN (M 6) n a))) 10)).2.2 vv := by rw [ei] at o2; exact of_decide_eq_true o2
  refine rb_aload_n X (pc := 0) dX5_rumourItem_0 rfl rfl ?_
  refine rb_aload_n X (pc := 1) dX5_rumourItem_1 rfl rfl ?_
  refine rc_getR X (pc := 2) fX5_7 rb_ob9 rfl dX5_rumourItem_2 ?_
  refine rb_iconst (v := 0) X (pc := 5) dX5_rumourItem_5 (by decide) ?_
  refine rc_ialdv X (pc := 6) 0 rb_ar9_0 ms_0 rfl (by decide) dX5_rumourItem_6 ?_
  refine rb_bipush (v := 10) X (pc := 7) dX5_rumourItem_7 (by decide) ?_
  refine rb_icmp_ge X (pc := 9) (tgt := 16) dX5_rumourItem_9 (by decide) (fun c9 => absurd c9 hf) (fun c9 => ?_)
  refine rb_iconst (v := 1) X (pc := 12) dX5_rumourItem_12 (by decide) ?_
  refine rb_goto X (pc := 13) (tgt := 17) dX5_rumourItem_13 (by decide) ?_
  refine rc_callVv X (pc := 17) cvX5_must mX5_249 rb_ob9 (qMt hn hM7 ha) (by decide) rfl rfl (Nat.le_of_ble_eq_true rfl) dX5_rumourItem_17 ?_
  refine rb_aload_n X (pc := 20) dX5_rumourItem_20 rfl rfl ?_
  refine rb_aload_n X (pc := 21) dX5_rumourItem_21 rfl rfl ?_
  refine rc_callVl X (pc := 22) cvX5_word mX5_253 rb_ob9 (qW0 hn hM7 hN1.2) (by decide) rfl rfl (Nat.le_of_ble_eq_true rfl) dX5_rumourItem_22 ?_
  refine rb_ldc2 X (pc := 25) dX5_rumourItem_25 kX5_272 ?_
  refine rb_lcmp X (pc := 28) dX5_rumourItem_28 ?_
  refine rb_if_ne X (pc := 29) (tgt := 36) dX5_rumourItem_29 (by decide) (fun c29 => absurd (lg_eq0.mpr (wK_11.mpr hW)) c29) (fun c29 => ?_)
  refine rb_iconst (v := 1) X (pc := 32) dX5_rumourItem_32 (by decide) ?_
  refine rb_goto X (pc := 33) (tgt := 37) dX5_rumourItem_33 (by decide) ?_
  refine rc_callVv X (pc := 37) cvX5_must mX5_249 rb_ob9 (qMt hn hM7 hN1.2) (by decide) rfl rfl (Nat.le_of_ble_eq_true rfl) dX5_rumourItem_37 ?_
  refine rb_aload_n X (pc := 40) dX5_rumourItem_40 rfl rfl ?_
  refine rb_iconst (v := 0) X (pc := 41) dX5_rumourItem_41 (by decide) ?_
  refine rb_bipush (v := 15) X (pc := 42) dX5_rumourItem_42 (by decide) ?_
  refine rc_callVv X (pc := 44) cvX5_number mX5_269 rb_ob9 (qNmT (m := 15) hn hM7 hN2.2 (by decide) hT) (by decide) rfl rfl (Nat.le_of_ble_eq_true rfl) dX5_rumourItem_44 ?_
  refine rb_aload_n X (pc := 47) dX5_rumourItem_47 rfl rfl ?_
  refine rc_getI X (pc := 48) fX5_235 rb_ob9 rfl gp_11 dX5_rumourItem_48 ?_
  refine rb_if_eq X (pc := 51) (tgt := 55) dX5_rumourItem_51 (by decide) (fun c51 => ?_) (fun c51 => absurd rfl c51)
  refine rb_aload_n X (pc := 55) dX5_rumourItem_55 rfl rfl ?_
  refine rb_iload_n X (pc := 56) dX5_rumourItem_56 rfl rfl ?_
  refine rb_aload_n X (pc := 57) dX5_rumourItem_57 rfl rfl ?_
  refine rc_getI X (pc := 58) fX5_246 rb_ob9 rfl (gp_10.trans (nv_V (m := 15) (by decide) hT)) dX5_rumourItem_58 ?_
  refine rc_callVi X (pc := 61) cvX5_adds mX5_103 rb_ob9 (qX5_adds hok.1 hok.2.1 hnf _ _) (by decide) rfl rfl (Nat.le_of_ble_eq_true rfl) dX5_rumourItem_61 ?_
  refine rb_istore_n X (pc := 64) dX5_rumourItem_64 rfl (by decide) rfl rfl ?_
  refine rb_aload_n X (pc := 65) dX5_rumourItem_65 rfl rfl ?_
  refine rb_ldc2 X (pc := 66) dX5_rumourItem_66 kX5_274 ?_
  refine rb_iload_n X (pc := 69) dX5_rumourItem_69 rfl rfl ?_
  refine rb_iconst (v := 2) X (pc := 70) dX5_rumourItem_70 (by decide) ?_
  refine rc_callSi X (pc := 71) cvX5_spotOf mX5_56 (qX5_spotOf (w := 2)) (by decide) rfl rfl (Nat.le_of_ble_eq_true rfl) dX5_rumourItem_71 ?_
  refine rb_bipush (v := 99) X (pc := 74) dX5_rumourItem_74 (by decide) ?_
  refine rc_callV X (pc := 76) cvX5_partItem mX5_276 rb_ob9 (qPi (p := (true, (tN (M 6) n (tN (M 6) n (tN (M 6) n a))), (sp_add T kd (tV (M 6) n (tN (M 6) n (tN (M 6) n a))) 10))) (i := 12) (j := 7) (q := sp_n T) (k := 27 + 5 * sp_n T + 2) (m := 99) hn hM7 hN3.2 (fun b => wK_12) (by decide) (by omega) (fun S x => enc_ur hnf (by decide)) (by decide)) (by decide) rfl rfl (Nat.le_of_ble_eq_true rfl) dX5_rumourItem_76 (fun r_76 h_76 p_76 => ?_)
  obtain ⟨rfl, v2, rfl⟩ := p_76
  refine sp_goS (S' := []) rfl ?_
  refine sp_go (h' := mh g M n (p_part (M 6) n 12 99 7 (sp_n T) (tN (M 6) n (tN (M 6) n (tN (M 6) n a))) (sp_add T kd (tV (M 6) n (tN (M 6) n (tN (M 6) n a))) 10)).2.1 v2 0 (p_part (M 6) n 12 99 7 (sp_n T) (tN (M 6) n (tN (M 6) n (tN (M 6) n a))) (sp_add T kd (tV (M 6) n (tN (M 6) n (tN (M 6) n a))) 10)).2.2) rfl (by rw [p_th_t rfl]; show mh g M n (p_part (M 6) n 12 99 7 (sp_n T) (tN (M 6) n (tN (M 6) n (tN (M 6) n a))) (sp_add T kd (tV (M 6) n (tN (M 6) n (tN (M 6) n a))) 10)).2.1 v2 (if (p_part (M 6) n 12 99 7 (sp_n T) (tN (M 6) n (tN (M 6) n (tN (M 6) n a))) (sp_add T kd (tV (M 6) n (tN (M 6) n (tN (M 6) n a))) 10)).1 = true then 0 else 1) (p_part (M 6) n 12 99 7 (sp_n T) (tN (M 6) n (tN (M 6) n (tN (M 6) n a))) (sp_add T kd (tV (M 6) n (tN (M 6) n (tN (M 6) n a))) 10)).2.2 = _; rw [if_pos hP]) ?_
  refine rb_aload_n X (pc := 79) dX5_rumourItem_79 rfl rfl ?_
  refine rc_callVl X (pc := 80) cvX5_word mX5_253 rb_ob9 (qW0 hn hM7 hle) (by decide) rfl rfl (Nat.le_of_ble_eq_true rfl) dX5_rumourItem_80 ?_
  refine rb_ldc2 X (pc := 83) dX5_rumourItem_83 kX5_280 ?_
  refine rb_lcmp X (pc := 86) dX5_rumourItem_86 ?_
  refine rb_if_ne X (pc := 87) (tgt := 146) dX5_rumourItem_87 (by decide) (fun c87 => absurd (lg_eq0.mpr (wK_13.mpr hI)) c87) (fun c87 => ?_)
  refine rb_aload_n X (pc := 90) dX5_rumourItem_90 rfl rfl ?_
  refine rb_iconst (v := 1) X (pc := 91) dX5_rumourItem_91 (by decide) ?_
  refine rc_callVv X (pc := 92) cvX5_must mX5_249 rb_ob9 (qMt hn hM7 hle) (by decide) rfl rfl (Nat.le_of_ble_eq_true rfl) dX5_rumourItem_92 ?_
  refine rb_aload_n X (pc := 95) dX5_rumourItem_95 rfl rfl ?_
  refine rc_callVi X (pc := 96) cvX5_peeked mX5_282 rb_ob9 (qX5_peeked hn hM7 hA1.2) (by decide) rfl rfl (Nat.le_of_ble_eq_true rfl) dX5_rumourItem_96 ?_
  rw [if_pos hS2, ev]
  refine rb_istore_n X (pc := 99) dX5_rumourItem_99 rfl (by decide) rfl rfl ?_
  refine rb_aload_n X (pc := 100) dX5_rumourItem_100 rfl rfl ?_
  refine rb_iload_n X (pc := 101) dX5_rumourItem_101 rfl rfl ?_
  refine rc_callSi X (pc := 102) cvX5_isHouse mX5_67 (qX5_isHouse _) (by decide) rfl rfl (Nat.le_of_ble_eq_true rfl) dX5_rumourItem_102 ?_
  refine rb_if_eq X (pc := 105) (tgt := 120) dX5_rumourItem_105 (by decide) (fun c105 => absurd hH (sp_b0.mp c105)) (fun c105 => ?_)
  (try simp only [sp_b0, Classical.not_not] at c105)
  refine rb_aload_n X (pc := 108) dX5_rumourItem_108 rfl rfl ?_
  refine rb_iload_n X (pc := 109) dX5_rumourItem_109 rfl rfl ?_
  refine rc_callVi X (pc := 110) cvX5_isFree mX5_125 rb_ob9 (qX5_isFree hokP.1 hokP.2.1 (by omega)) (by decide) rfl rfl (Nat.le_of_ble_eq_true rfl) dX5_rumourItem_110 ?_
  refine rb_if_eq X (pc := 113) (tgt := 120) dX5_rumourItem_113 (by decide) (fun c113 => absurd hF (sp_b0.mp c113)) (fun c113 => ?_)
  (try simp only [sp_b0, Classical.not_not] at c113)
  refine rb_iconst (v := 1) X (pc := 116) dX5_rumourItem_116 (by decide) ?_
  refine rb_goto X (pc := 117) (tgt := 121) dX5_rumourItem_117 (by decide) ?_
  refine rc_callVv X (pc := 121) cvX5_must mX5_249 rb_ob9 (qMt hn hM7 hA1.2) (by decide) rfl rfl (Nat.le_of_ble_eq_true rfl) dX5_rumourItem_121 ?_
  refine rb_aload_n X (pc := 124) dX5_rumourItem_124 rfl rfl ?_
  refine rc_getR X (pc := 125) fX5_7 rb_ob9 rfl dX5_rumourItem_125 ?_
  refine rb_iload_n X (pc := 128) dX5_rumourItem_128 rfl rfl ?_
  refine rb_iconst (v := 4) X (pc := 129) dX5_rumourItem_129 (by decide) ?_
  refine rc_callSi X (pc := 130) cvX5_spotOf mX5_56 (qX5_spotOf (w := 4)) (by decide) rfl rfl (Nat.le_of_ble_eq_true rfl) dX5_rumourItem_130 ?_
  refine rb_aload_n X (pc := 133) dX5_rumourItem_133 rfl rfl ?_
  refine rc_getI X (pc := 134) fX5_235 rb_ob9 rfl gp_11 dX5_rumourItem_134 ?_
  refine rb_if_eq X (pc := 137) (tgt := 144) dX5_rumourItem_137 (by decide) (fun c137 => ?_) (fun c137 => absurd rfl c137)
  refine rb_iload_n X (pc := 144) dX5_rumourItem_144 rfl rfl ?_
  refine rc_iast X (pc := 145) _ rb_ar9_0 (ms_r4 (by omega)) rfl (by omega) dX5_rumourItem_145 ?_
  refine rb_vret (S := []) X (pc := 146) Y dX5_rumourItem_146 ?_
  have e : p_rum (M 6) n kd a T = (true, tN (M 6) n (tN (M 6) n (p_part (M 6) n 12 99 7 (sp_n T) (tN (M 6) n (tN (M 6) n (tN (M 6) n a))) (sp_add T kd (tV (M 6) n (tN (M 6) n (tN (M 6) n a))) 10)).2.1), u2 (p_part (M 6) n 12 99 7 (sp_n T) (tN (M 6) n (tN (M 6) n (tN (M 6) n a))) (sp_add T kd (tV (M 6) n (tN (M 6) n (tN (M 6) n a))) 10)).2.2 9 (sp_n T) (nI vv)) := by rw [p_rum, if_neg hf, if_pos hW, p_rum2, if_pos hT, p_th_t hP, p_lod, if_pos hI, if_pos hO, ev]
  exact ⟨rfl, v2, by rw [e]; rfl⟩
set_option maxRecDepth 100000 in
set_option maxHeartbeats 1000000 in
theorem qRi_D4 {G : rb_G} {g : rb_H} {M T : rb_T} {n : Nat} (hn : n ≤ 120) (hM7 : M 7 0 = nI n) {a : Nat} {v : Int32} (ha : a ≤ n) {kd : Int32} (hok : sp_ok T) (hf : ¬ (10 : Int32) ≤ T 4 0) (hW : tW (M 6) n (tN (M 6) n a) 11 = true) (hT : tM (M 6) n (tN (M 6) n (tN (M 6) n a)) 15 = true) (hkd : ∃ q, q < 6 ∧ kd = nI q) (hP : (p_part (M 6) n 12 99 7 (sp_n T) (tN (M 6) n (tN (M 6) n (tN (M 6) n a))) (sp_add T kd (tV (M 6) n (tN (M 6) n (tN (M 6) n a))) 10)).1 = true) (hI : tW (M 6) n (p_part (M 6) n 12 99 7 (sp_n T) (tN (M 6) n (tN (M 6) n (tN (M 6) n a))) (sp_add T kd (tV (M 6) n (tN (M 6) n (tN (M 6) n a))) 10)).2.1 13 = true) (hO : ¬ (tM (M 6) n (tN (M 6) n (p_part (M 6) n 12 99 7 (sp_n T) (tN (M 6) n (tN (M 6) n (tN (M 6) n a))) (sp_add T kd (tV (M 6) n (tN (M 6) n (tN (M 6) n a))) 10)).2.1) 7 && sp_free (p_part (M 6) n 12 99 7 (sp_n T) (tN (M 6) n (tN (M 6) n (tN (M 6) n a))) (sp_add T kd (tV (M 6) n (tN (M 6) n (tN (M 6) n a))) 10)).2.2 (ix (tV (M 6) n (tN (M 6) n (p_part (M 6) n 12 99 7 (sp_n T) (tN (M 6) n (tN (M 6) n (tN (M 6) n a))) (sp_add T kd (tV (M 6) n (tN (M 6) n (tN (M 6) n a))) 10)).2.1)))) = true) : rb_M G 6 yX5_rumourItem cX5_rumourItem 4 none [.ref (rb_ad G 9 0), .int kd] (mh g M n a v 0 T) (fun r h2 => r = none ∧ ∃ v2, h2 = HS g M n (p_rum (M 6) n kd a T) v2) := by
  refine rb_meth (L := [.ref (rb_ad G 9 0), .int kd, .null, .null]) (by decide) (Nat.le_of_ble_eq_true rfl) rfl (fun Z X Y => ?_)
  have X : rb_CX Z G cX5_rumourItem 4 RX5 6 := X
  have hN1 := tN_le (f := M 6) ha
  have hN2 := tN_le (f := M 6) hN1.2
  have hN3 := tN_le (f := M 6) hN2.2
  have h10 := hok.2.1
  have hnf : sp_n T < 10 := by
    rcases Nat.lt_or_ge (sp_n T) 10 with z | z
    · exact z
    · exact absurd (by rw [hok.1]; exact (nI_leI (a := 10) (by omega) (by omega)).mpr z) hf
  obtain ⟨tv, htv, etv⟩ := tM_of (m := 15) (by decide) hT
  have hokA : sp_ok (sp_add T kd (tV (M 6) n (tN (M 6) n (tN (M 6) n a))) 10) := sp_add_ok hok hnf hkd ⟨tv, by omega, etv⟩ ⟨10, by omega, rfl⟩
  have hokP : sp_ok (p_part (M 6) n 12 99 7 (sp_n T) (tN (M 6) n (tN (M 6) n (tN (M 6) n a))) (sp_add T kd (tV (M 6) n (tN (M 6) n (tN (M 6) n a))) 10)).2.2 := p_part_ok (m := 99) (by decide) hokA (fun v hv => ok_u7 hokA hv)
  have hle : (p_part (M 6) n 12 99 7 (sp_n T) (tN (M 6) n (tN (M 6) n (tN (M 6) n a))) (sp_add T kd (tV (M 6) n (tN (M 6) n (tN (M 6) n a))) 10)).2.1 ≤ n := p_part_le hN3.2
  have h9 : (p_part (M 6) n 12 99 7 (sp_n T) (tN (M 6) n (tN (M 6) n (tN (M 6) n a))) (sp_add T kd (tV (M 6) n (tN (M 6) n (tN (M 6) n a))) 10)).2.2 9 (sp_n T) = -1 := by rw [p_part_9 (by decide), sp_add_9, if_pos rfl]
  have hA1 := tN_le (f := M 6) hle
  have hA2 := tN_le (f := M 6) hA1.2
  refine rb_aload_n X (pc := 0) dX5_rumourItem_0 rfl rfl ?_
  refine rb_aload_n X (pc := 1) dX5_rumourItem_1 rfl rfl ?_
  refine rc_getR X (pc := 2) fX5_7 rb_ob9 rfl dX5_rumourItem_2 ?_
  refine rb_iconst (v := 0) X (pc := 5) dX5_rumourItem_5 (by decide) ?_
  refine rc_ialdv X (pc := 6) 0 rb_ar9_0 ms_0 rfl (by decide) dX5_rumourItem_6 ?_
  refine rb_bipush (v := 10) X (pc := 7) dX5_rumourItem_7 (by decide) ?_
  refine rb_icmp_ge X (pc := 9) (tgt := 16) dX5_rumourItem_9 (by decide) (fun c9 => absurd c9 hf) (fun c9 => ?_)
  refine rb_iconst (v := 1) X (pc := 12) dX5_rumourItem_12 (by decide) ?_
  refine rb_goto X (pc := 13) (tgt := 17) dX5_rumourItem_13 (by decide) ?_
  refine rc_callVv X (pc := 17) cvX5_must mX5_249 rb_ob9 (qMt hn hM7 ha) (by decide) rfl rfl (Nat.le_of_ble_eq_true rfl) dX5_rumourItem_17 ?_
  refine rb_aload_n X (pc := 20) dX5_rumourItem_20 rfl rfl ?_
  refine rb_aload_n X (pc := 21) dX5_rumourItem_21 rfl rfl ?_
  refine rc_callVl X (pc := 22) cvX5_word mX5_253 rb_ob9 (qW0 hn hM7 hN1.2) (by decide) rfl rfl (Nat.le_of_ble_eq_true rfl) dX5_rumourItem_22 ?_
  refine rb_ldc2 X (pc := 25) dX5_rumourItem_25 kX5_272 ?_
  refine rb_lcmp X (pc := 28) dX5_rumourItem_28 ?_
  refine rb_if_ne X (pc := 29) (tgt := 36) dX5_rumourItem_29 (by decide) (fun c29 => absurd (lg_eq0.mpr (wK_11.mpr hW)) c29) (fun c29 => ?_)
  refine rb_iconst (v := 1) X (pc := 32) dX5_rumourItem_32 (by decide) ?_
  refine rb_goto X (pc := 33) (tgt := 37) dX5_rumourItem_33 (by decide) ?_
  refine rc_callVv X (pc := 37) cvX5_must mX5_249 rb_ob9 (qMt hn hM7 hN1.2) (by decide) rfl rfl (Nat.le_of_ble_eq_true rfl) dX5_rumourItem_37 ?_
  refine rb_aload_n X (pc := 40) dX5_rumourItem_40 rfl rfl ?_
  refine rb_iconst (v := 0) X (pc := 41) dX5_rumourItem_41 (by decide) ?_
  refine rb_bipush (v := 15) X (pc := 42) dX5_rumourItem_42 (by decide) ?_
  refine rc_callVv X (pc := 44) cvX5_number mX5_269 rb_ob9 (qNmT (m := 15) hn hM7 hN2.2 (by decide) hT) (by decide) rfl rfl (Nat.le_of_ble_eq_true rfl) dX5_rumourItem_44 ?_
  refine rb_aload_n X (pc := 47) dX5_rumourItem_47 rfl rfl ?_
  refine rc_getI X (pc := 48) fX5_235 rb_ob9 rfl gp_11 dX5_rumourItem_48 ?_
  refine rb_if_eq X (pc := 51) (tgt := 55) dX5_rumourItem_51 (by decide) (fun c51 => ?_) (fun c51 => absurd rfl c51)
  refine rb_aload_n X (pc := 55) dX5_rumourItem_55 rfl rfl ?_
  refine rb_iload_n X (pc := 56) dX5_rumourItem_56 rfl rfl ?_
  refine rb_aload_n X (pc := 57) dX5_rumourItem_57 rfl rfl ?_
  refine rc_getI X (pc := 58) fX5_246 rb_ob9 rfl (gp_10.trans (nv_V (m := 15) (by decide) hT)) dX5_rumourItem_58 ?_
  refine rc_callVi X (pc := 61) cvX5_adds mX5_103 rb_ob9 (qX5_adds hok.1 hok.2.1 hnf _ _) (by decide) rfl rfl (Nat.le_of_ble_eq_true rfl) dX5_rumourItem_61 ?_
  refine rb_istore_n X (pc := 64) dX5_rumourItem_64 rfl (by decide) rfl rfl ?_
  refine rb_aload_n X (pc := 65) dX5_rumourItem_65 rfl rfl ?_
  refine rb_ldc2 X (pc := 66) dX5_rumourItem_66 kX5_274 ?_
  refine rb_iload_n X (pc := 69) dX5_rumourItem_69 rfl rfl ?_
  refine rb_iconst (v := 2) X (pc := 70) dX5_rumourItem_70 (by decide) ?_
  refine rc_callSi X (pc := 71) cvX5_spotOf mX5_56 (qX5_spotOf (w := 2)) (by decide) rfl rfl (Nat.le_of_ble_eq_true rfl) dX5_rumourItem_71 ?_
  refine rb_bipush (v := 99) X (pc := 74) dX5_rumourItem_74 (by decide) ?_
  refine rc_callV X (pc := 76) cvX5_partItem mX5_276 rb_ob9 (qPi (p := (true, (tN (M 6) n (tN (M 6) n (tN (M 6) n a))), (sp_add T kd (tV (M 6) n (tN (M 6) n (tN (M 6) n a))) 10))) (i := 12) (j := 7) (q := sp_n T) (k := 27 + 5 * sp_n T + 2) (m := 99) hn hM7 hN3.2 (fun b => wK_12) (by decide) (by omega) (fun S x => enc_ur hnf (by decide)) (by decide)) (by decide) rfl rfl (Nat.le_of_ble_eq_true rfl) dX5_rumourItem_76 (fun r_76 h_76 p_76 => ?_)
  obtain ⟨rfl, v2, rfl⟩ := p_76
  refine sp_goS (S' := []) rfl ?_
  refine sp_go (h' := mh g M n (p_part (M 6) n 12 99 7 (sp_n T) (tN (M 6) n (tN (M 6) n (tN (M 6) n a))) (sp_add T kd (tV (M 6) n (tN (M 6) n (tN (M 6) n a))) 10)).2.1 v2 0 (p_part (M 6) n 12 99 7 (sp_n T) (tN (M 6) n (tN (M 6) n (tN (M 6) n a))) (sp_add T kd (tV (M 6) n (tN (M 6) n (tN (M 6) n a))) 10)).2.2) rfl (by rw [p_th_t rfl]; show mh g M n (p_part (M 6) n 12 99 7 (sp_n T) (tN (M 6) n (tN (M 6) n (tN (M 6) n a))) (sp_add T kd (tV (M 6) n (tN (M 6) n (tN (M 6) n a))) 10)).2.1 v2 (if (p_part (M 6) n 12 99 7 (sp_n T) (tN (M 6) n (tN (M 6) n (tN (M 6) n a))) (sp_add T kd (tV (M 6) n (tN (M 6) n (tN (M 6) n a))) 10)).1 = true then 0 else 1) (p_part (M 6) n 12 99 7 (sp_n T) (tN (M 6) n (tN (M 6) n (tN (M 6) n a))) (sp_add T kd (tV (M 6) n (tN (M 6) n (tN (M 6) n a))) 10)).2.2 = _; rw [if_pos hP]) ?_
  refine rb_aload_n X (pc := 79) dX5_rumourItem_79 rfl rfl ?_
  refine rc_callVl X (pc := 80) cvX5_word mX5_253 rb_ob9 (qW0 hn hM7 hle) (by decide) rfl rfl (Nat.le_of_ble_eq_true rfl) dX5_rumourItem_80 ?_
  refine rb_ldc2 X (pc := 83) dX5_rumourItem_83 kX5_280 ?_
  refine rb_lcmp X (pc := 86) dX5_rumourItem_86 ?_
  refine rb_if_ne X (pc := 87) (tgt := 146) dX5_rumourItem_87 (by decide) (fun c87 => absurd (lg_eq0.mpr (wK_13.mpr hI)) c87) (fun c87 => ?_)
  refine rb_aload_n X (pc := 90) dX5_rumourItem_90 rfl rfl ?_
  refine rb_iconst (v := 1) X (pc := 91) dX5_rumourItem_91 (by decide) ?_
  refine rc_callVv X (pc := 92) cvX5_must mX5_249 rb_ob9 (qMt hn hM7 hle) (by decide) rfl rfl (Nat.le_of_ble_eq_true rfl) dX5_rumourItem_92 ?_
  refine rb_aload_n X (pc := 95) dX5_rumourItem_95 rfl rfl ?_
  refine rc_callVi X (pc := 96) cvX5_peeked mX5_282 rb_ob9 (qX5_peeked hn hM7 hA1.2) (by decide) rfl rfl (Nat.le_of_ble_eq_true rfl) dX5_rumourItem_96 ?_
  refine rb_istore_n X (pc := 99) dX5_rumourItem_99 rfl (by decide) rfl rfl ?_
  refine rb_aload_n X (pc := 100) dX5_rumourItem_100 rfl rfl ?_
  refine rb_iload_n X (pc := 101) dX5_rumourItem_101 rfl rfl ?_
  refine rc_callSi X (pc := 102) cvX5_isHouse mX5_67 (qX5_isHouse _) (by decide) rfl rfl (Nat.le_of_ble_eq_true rfl) dX5_rumourItem_102 ?_
  refine rb_if_eq X (pc := 105) (tgt := 120) dX5_rumourItem_105 (by decide) (fun c105 => ?_) (fun c105 => ?_)
  · (try simp only [sp_b0, Classical.not_not] at c105)
    refine rb_iconst (v := 0) X (pc := 120) dX5_rumourItem_120 (by decide) ?_
    refine rc_callVv X (pc := 121) cvX5_must mX5_249 rb_ob9 (qMf hn hM7) (by decide) rfl rfl (Nat.le_of_ble_eq_true rfl) dX5_rumourItem_121 ?_
    refine rb_aload_n X (pc := 124) dX5_rumourItem_124 rfl rfl ?_
    refine rc_getR X (pc := 125) fX5_7 rb_ob9 rfl dX5_rumourItem_125 ?_
    refine rb_iload_n X (pc := 128) dX5_rumourItem_128 rfl rfl ?_
    refine rb_iconst (v := 4) X (pc := 129) dX5_rumourItem_129 (by decide) ?_
    refine rc_callSi X (pc := 130) cvX5_spotOf mX5_56 (qX5_spotOf (w := 4)) (by decide) rfl rfl (Nat.le_of_ble_eq_true rfl) dX5_rumourItem_130 ?_
    refine rb_aload_n X (pc := 133) dX5_rumourItem_133 rfl rfl ?_
    refine rc_getI X (pc := 134) fX5_235 rb_ob9 rfl gp_11 dX5_rumourItem_134 ?_
    refine rb_if_eq X (pc := 137) (tgt := 144) dX5_rumourItem_137 (by decide) (fun c137 => absurd c137 (by decide)) (fun c137 => ?_)
    refine rb_iconst (v := (-1)) X (pc := 140) dX5_rumourItem_140 (by decide) ?_
    refine rb_goto X (pc := 141) (tgt := 145) dX5_rumourItem_141 (by decide) ?_
    refine rc_iast X (pc := 145) _ rb_ar9_0 (ms_r4 (by omega)) rfl (by omega) dX5_rumourItem_145 ?_
    rw [u2_self h9]
    refine rb_vret (S := []) X (pc := 146) Y dX5_rumourItem_146 ?_
    have e : p_rum (M 6) n kd a T = (false, (tN (M 6) n (p_part (M 6) n 12 99 7 (sp_n T) (tN (M 6) n (tN (M 6) n (tN (M 6) n a))) (sp_add T kd (tV (M 6) n (tN (M 6) n (tN (M 6) n a))) 10)).2.1), (p_part (M 6) n 12 99 7 (sp_n T) (tN (M 6) n (tN (M 6) n (tN (M 6) n a))) (sp_add T kd (tV (M 6) n (tN (M 6) n (tN (M 6) n a))) 10)).2.2) := by rw [p_rum, if_neg hf, if_pos hW, p_rum2, if_pos hT, p_th_t hP, p_lod, if_pos hI, if_neg hO]
    exact ⟨rfl, v2, by rw [e]; rfl⟩
  · (try simp only [sp_b0, Classical.not_not] at c105)
    obtain ⟨vv, hvv, eX⟩ := iH_of c105
    have hS2 : tS (M 6) n (tN (M 6) n (p_part (M 6) n 12 99 7 (sp_n T) (tN (M 6) n (tN (M 6) n (tN (M 6) n a))) (sp_add T kd (tV (M 6) n (tN (M 6) n (tN (M 6) n a))) 10)).2.1) = 2 := by
      rcases Classical.em (tS (M 6) n (tN (M 6) n (p_part (M 6) n 12 99 7 (sp_n T) (tN (M 6) n (tN (M 6) n (tN (M 6) n a))) (sp_add T kd (tV (M 6) n (tN (M 6) n (tN (M 6) n a))) 10)).2.1) = 2) with z | z
      · exact z
      · rw [if_neg z] at eX; exact absurd eX (sp_m1 (by omega))
    have eV : tV (M 6) n (tN (M 6) n (p_part (M 6) n 12 99 7 (sp_n T) (tN (M 6) n (tN (M 6) n (tN (M 6) n a))) (sp_add T kd (tV (M 6) n (tN (M 6) n (tN (M 6) n a))) 10)).2.1) = nI vv := by rw [if_pos hS2] at eX; exact eX
    have o1 : tM (M 6) n (tN (M 6) n (p_part (M 6) n 12 99 7 (sp_n T) (tN (M 6) n (tN (M 6) n (tN (M 6) n a))) (sp_add T kd (tV (M 6) n (tN (M 6) n (tN (M 6) n a))) 10)).2.1) 7 = true := by
      unfold tM
      exact decide_eq_true ⟨hS2, by rw [eV]; exact (nI_leI (b := 7) (by omega) (by omega)).mpr (by omega)⟩
    have ei : ix (tV (M 6) n (tN (M 6) n (p_part (M 6) n 12 99 7 (sp_n T) (tN (M 6) n (tN (M 6) n (tN (M 6) n a))) (sp_add T kd (tV (M 6) n (tN (M 6) n (tN (M 6) n a))) 10)).2.1)) = vv := by rw [eV]; exact nI_clamp (by omega)
    refine rb_aload_n X (pc := 108) dX5_rumourItem_108 rfl rfl ?_
    refine rb_iload_n X (pc := 109) dX5_rumourItem_109 rfl rfl ?_
    rw [eX]
    refine rc_callVi X (pc := 110) cvX5_isFree mX5_125 rb_ob9 (qX5_isFree hokP.1 hokP.2.1 (by omega)) (by decide) rfl rfl (Nat.le_of_ble_eq_true rfl) dX5_rumourItem_110 ?_
    refine rb_if_eq X (pc := 113) (tgt := 120) dX5_rumourItem_113 (by decide) (fun c113 => ?_) (fun c113 => ?_)
    · (try simp only [sp_b0, Classical.not_not] at c113)
      refine rb_iconst (v := 0) X (pc := 120) dX5_rumourItem_120 (by decide) ?_
      refine rc_callVv X (pc := 121) cvX5_must mX5_249 rb_ob9 (qMf hn hM7) (by decide) rfl rfl (Nat.le_of_ble_eq_true rfl) dX5_rumourItem_121 ?_
      refine rb_aload_n X (pc := 124) dX5_rumourItem_124 rfl rfl ?_
      refine rc_getR X (pc := 125) fX5_7 rb_ob9 rfl dX5_rumourItem_125 ?_
      refine rb_iload_n X (pc := 128) dX5_rumourItem_128 rfl rfl ?_
      refine rb_iconst (v := 4) X (pc := 129) dX5_rumourItem_129 (by decide) ?_
      refine rc_callSi X (pc := 130) cvX5_spotOf mX5_56 (qX5_spotOf (w := 4)) (by decide) rfl rfl (Nat.le_of_ble_eq_true rfl) dX5_rumourItem_130 ?_
      refine rb_aload_n X (pc := 133) dX5_rumourItem_133 rfl rfl ?_
      refine rc_getI X (pc := 134) fX5_235 rb_ob9 rfl gp_11 dX5_rumourItem_134 ?_
      refine rb_if_eq X (pc := 137) (tgt := 144) dX5_rumourItem_137 (by decide) (fun c137 => absurd c137 (by decide)) (fun c137 => ?_)
      refine rb_iconst (v := (-1)) X (pc := 140) dX5_rumourItem_140 (by decide) ?_
      refine rb_goto X (pc := 141) (tgt := 145) dX5_rumourItem_141 (by decide) ?_
      refine rc_iast X (pc := 145) _ rb_ar9_0 (ms_r4 (by omega)) rfl (by omega) dX5_rumourItem_145 ?_
      rw [u2_self h9]
      refine rb_vret (S := []) X (pc := 146) Y dX5_rumourItem_146 ?_
      have e : p_rum (M 6) n kd a T = (false, (tN (M 6) n (p_part (M 6) n 12 99 7 (sp_n T) (tN (M 6) n (tN (M 6) n (tN (M 6) n a))) (sp_add T kd (tV (M 6) n (tN (M 6) n (tN (M 6) n a))) 10)).2.1), (p_part (M 6) n 12 99 7 (sp_n T) (tN (M 6) n (tN (M 6) n (tN (M 6) n a))) (sp_add T kd (tV (M 6) n (tN (M 6) n (tN (M 6) n a))) 10)).2.2) := by rw [p_rum, if_neg hf, if_pos hW, p_rum2, if_pos hT, p_th_t hP, p_lod, if_pos hI, if_neg hO]
      exact ⟨rfl, v2, by rw [e]; rfl⟩
    · (try simp only [sp_b0, Classical.not_not] at c113)
      exact absurd (Bool.and_eq_true_iff.mpr ⟨o1, decide_eq_true (by rw [ei]; exact (show sp_free (p_part (M 6) n 12 99 7 (sp_n T) (tN (M 6) n (tN (M 6) n (tN (M 6) n a))) (sp_add T kd (tV (M 6) n (tN (M 6) n (tN (M 6) n a))) 10)).2.2 vv from by first | exact c113 | (simp only [sp_b0, Classical.not_not] at c113; exact c113)))⟩) hO
theorem qX5_rumourItem {G : rb_G} {g : rb_H} {M T : rb_T} {n : Nat} (hn : n ≤ 120) (hM7 : M 7 0 = nI n) {a : Nat} {v : Int32} (ha : a ≤ n) {kd : Int32} (hok : sp_ok T) (hkd : ∃ q, q < 6 ∧ kd = nI q) : rb_M G 6 yX5_rumourItem cX5_rumourItem 4 none [.ref (rb_ad G 9 0), .int kd] (mh g M n a v 0 T) (fun r h2 => r = none ∧ ∃ v2, h2 = HS g M n (p_rum (M 6) n kd a T) v2) := by
  by_cases hf : (10 : Int32) ≤ T 4 0
  · exact qRi_A hn hM7 ha hok hf
  · by_cases hW : tW (M 6) n (tN (M 6) n a) 11 = true
    · by_cases hT : tM (M 6) n (tN (M 6) n (tN (M 6) n a)) 15 = true
      · by_cases hP : (p_part (M 6) n 12 99 7 (sp_n T) (tN (M 6) n (tN (M 6) n (tN (M 6) n a))) (sp_add T kd (tV (M 6) n (tN (M 6) n (tN (M 6) n a))) 10)).1 = true
        · by_cases hI : tW (M 6) n (p_part (M 6) n 12 99 7 (sp_n T) (tN (M 6) n (tN (M 6) n (tN (M 6) n a))) (sp_add T kd (tV (M 6) n (tN (M 6) n (tN (M 6) n a))) 10)).2.1 13 = true
          · by_cases hO : (tM (M 6) n (tN (M 6) n (p_part (M 6) n 12 99 7 (sp_n T) (tN (M 6) n (tN (M 6) n (tN (M 6) n a))) (sp_add T kd (tV (M 6) n (tN (M 6) n (tN (M 6) n a))) 10)).2.1) 7 && sp_free (p_part (M 6) n 12 99 7 (sp_n T) (tN (M 6) n (tN (M 6) n (tN (M 6) n a))) (sp_add T kd (tV (M 6) n (tN (M 6) n (tN (M 6) n a))) 10)).2.2 (ix (tV (M 6) n (tN (M 6) n (p_part (M 6) n 12 99 7 (sp_n T) (tN (M 6) n (tN (M 6) n (tN (M 6) n a))) (sp_add T kd (tV (M 6) n (tN (M 6) n (tN (M 6) n a))) 10)).2.1)))) = true
            · exact qRi_D3 hn hM7 ha hok hf hW hT hkd hP hI hO
            · exact qRi_D4 hn hM7 ha hok hf hW hT hkd hP hI hO
          · exact qRi_D2 hn hM7 ha hok hf hW hT hkd hP hI
        · exact qRi_D1 hn hM7 ha hok hf hW hT hkd hP
      · exact qRi_C hn hM7 ha hok hf hW hT
    · exact qRi_B hn hM7 ha hok hf hW
