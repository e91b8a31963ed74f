theorem sp_nn {x : Int32} (h : 0 ≤ x) : ∃ a, a < 2 ^ 31 ∧ x = nI a := by
  have a := Int32.le_iff_toInt_le.mp h
  have c0 : (0 : Int32).toInt = 0 := by decide
  have b := Int32.toInt_lt x
  rw [c0] at a
  refine ⟨x.toInt.toNat, by omega, ?_⟩
  apply Int32.toInt_inj.mp
  rw [nI_toInt (by omega)]
  omega
theorem iG_m {f n : Int32} {z : Nat} (hz : z ≤ 40) (h0 : 0 ≤ f) (hn : 0 ≤ n) : iG f n (nI z) = true ↔ n ≤ nI z - f := by
  obtain ⟨a, ha, rfl⟩ := sp_nn h0
  obtain ⟨m, hm, rfl⟩ := sp_nn hn
  simp only [iG, decide_eq_true_eq]
  constructor
  · rintro ⟨-, -, h3, h4⟩
    have h3 := (nI_leI hm (by omega)).mp h3
    rw [pk_sub h3] at h4
    have h4 := (nI_leI ha (by omega)).mp h4
    rw [pk_sub (show a ≤ z by omega)]
    exact (nI_leI hm (by omega)).mpr (by omega)
  · intro h
    by_cases haz : a ≤ z
    · rw [pk_sub haz] at h
      have h := (nI_leI hm (by omega)).mp h
      refine ⟨h0, hn, (nI_leI hm (by omega)).mpr (by omega), ?_⟩
      rw [pk_sub (show m ≤ z by omega)]
      exact (nI_leI ha (by omega)).mpr (by omega)
    · have h2 : nI z - nI a < 0 := by
        rw [fa_lt, Int32.toInt_sub, nI_toInt (by omega), nI_toInt (by omega), Int.bmod_eq_of_le (by omega) (by omega)]
        have c0 : (0 : Int32).toInt = 0 := by decide
        omega
      exact absurd (Int32.le_trans hn h) (Int32.not_le.mpr h2)
theorem iG_0 {f n l : Int32} (h : iG f n l = true) : 0 ≤ f ∧ 0 ≤ n := by simp only [iG, decide_eq_true_eq] at h; exact ⟨h.1, h.2.1⟩
set_option maxRecDepth 100000 in
set_option maxHeartbeats 1000000 in
theorem lpX5_copy_157 {Z : rb_Z} {G : rb_G} {σ : Sg} {h H : rb_H} {q a q2 a2 n : Nat} {M : Nat → Int64} {p : Int32 × Sg} (hq2 : q2 < 4) (hn2 : a2 + n ≤ 40) (hn1 : a + n ≤ 40) (hM : MI σ H) (ho : rb_ot h H) (hm : ∀ k, k < n → M k = sU σ q (a + k)) (hp : p = (nI n, wS σ (sW σ) (sZ σ) (va_up (sU σ) q2 (va_cpy (sU σ q) (sU σ q2) a a2 n)))) (X : rb_CX Z G cX5_copy 7 RX5 2) (Y : rb_RT Z G (some .int) (PM h p)) : ∀ fu : Nat, ∀ (i : Nat) (f : Nat → Int64), i ≤ n → n + 1 ≤ i + fu → (∀ s, s < 4 → ∀ k, k < 40 → f (40 * s + k) = if s = q2 ∧ a2 ≤ k ∧ k < a2 + i then sU σ q (a + (k - a2)) else sU σ s k) → rb_WP Z G 7 157 [.ref (rb_ad G 9 0), .int (nI q), .int (nI a), .int (nI q2), .int (nI a2), .int (nI n), .int (nI i)] [] (rb_rowl (rb_rowl H 9 15 M) 9 14 f) := by
  intro fu
  induction fu with
  | zero => intro i f hi hf hz; omega
  | succ fu ih =>
    intro i f hi hf hz
    refine rb_iload X (pc := 157) dX5_copy_157 rfl ?_
    refine rb_iload X (pc := 159) dX5_copy_159 rfl ?_
    refine rb_icmp_ge X (pc := 161) (tgt := 192) dX5_copy_161 (by decide) (fun c161 => ?_) (fun c161 => ?_)
    · have hi2 := (sp_geI (n := n) rfl (by omega) (by omega)).mp c161
      obtain rfl : i = n := by omega
      refine rb_iload X (pc := 192) dX5_copy_192 rfl ?_
      refine rb_iret (S := []) X (pc := 194) Y dX5_copy_194 ?_
      refine pm_g (MI_U (MI_m hM) _ (fun s hs k hk => ?_)) (ot_rl (ot_rl ho)) hp
      rw [hz s hs k hk]
      simp only [va_up]
      by_cases e : s = q2
      · subst e
        by_cases e2 : a2 ≤ k ∧ k < a2 + i
        · rw [if_pos ⟨rfl, e2⟩, if_pos rfl, pk_cpy_in e2.1 e2.2]
        · rw [if_neg (fun z => e2 z.2), if_pos rfl, pk_cpy_out (by omega)]
      · rw [if_neg (fun z => e z.1), if_neg e]
    · have hi2 : i < n := Nat.lt_of_not_le (fun z => c161 ((sp_geI (n := n) rfl (by omega) (by omega)).mpr z))
      refine rb_aload_n X (pc := 164) dX5_copy_164 rfl rfl ?_
      refine rc_getR X (pc := 165) fX5_34 rb_ob9 rfl dX5_copy_165 ?_
      refine rb_bipush (v := 40) X (pc := 168) dX5_copy_168 (by decide) ?_
      refine rb_iload_n X (pc := 170) dX5_copy_170 rfl rfl ?_
      refine rb_imul X (pc := 171) dX5_copy_171 ?_
      refine rb_iload X (pc := 172) dX5_copy_172 rfl ?_
      refine rb_iadd X (pc := 174) dX5_copy_174 ?_
      refine rb_iload X (pc := 175) dX5_copy_175 rfl ?_
      refine rb_iadd X (pc := 177) dX5_copy_177 ?_
      refine rb_aload_n X (pc := 178) dX5_copy_178 rfl rfl ?_
      refine rc_getR X (pc := 179) fX5_38 rb_ob9 rfl dX5_copy_179 ?_
      refine rb_iload X (pc := 182) dX5_copy_182 rfl ?_
      refine rc_lald X (pc := 184) i rb_ar9_15 ((rb_rowl_ne (by decide)).trans rb_rowl_same) rfl (by omega) dX5_copy_184 ?_
      refine rc_last X (pc := 185) (40 * q2 + (a2 + i)) rb_ar9_14 rb_ul_rowl (by rw [sp_40, nI_add, Nat.add_assoc]) (by omega) dX5_copy_185 ?_
      refine rb_iinc X (pc := 186) dX5_copy_186 rfl (sp_inc _) (by decide) rfl rfl ?_
      refine rb_goto X (pc := 189) (tgt := 157) dX5_copy_189 (by decide) ?_
      exact sp_go rfl rfl (ih (i + 1) _ (by omega) (by omega) (fun s hs k hk => by
        simp only [va_up, q40 hk (show a2 + i < 40 by omega)]
        by_cases e : s = q2 ∧ k = a2 + i
        · rw [if_pos e, if_pos (by omega), hm i hi2, show k - a2 = i by omega]
        · rw [if_neg e, hz s hs k hk]
          by_cases e2 : s = q2 ∧ a2 ≤ k ∧ k < a2 + i
          · rw [if_pos e2, if_pos (by omega)]
          · rw [if_neg e2, if_neg (by omega)]))
set_option maxRecDepth 100000 in
set_option maxHeartbeats 1000000 in
theorem lpX5_copy_120 {Z : rb_Z} {G : rb_G} {σ : Sg} {h H : rb_H} {q a q2 a2 n : Nat} {p : Int32 × Sg} (hq : q < 4) (hq2 : q2 < 4) (hn2 : a2 + n ≤ 40) (hn1 : a + n ≤ 40) (hM : MI σ H) (ho : rb_ot h H) (hp : p = (nI n, wS σ (sW σ) (sZ σ) (va_up (sU σ) q2 (va_cpy (sU σ q) (sU σ q2) a a2 n)))) (X : rb_CX Z G cX5_copy 7 RX5 2) (Y : rb_RT Z G (some .int) (PM h p)) : ∀ fu : Nat, ∀ (i : Nat) (M : Nat → Int64), i ≤ n → n + 1 ≤ i + fu → (∀ k, k < i → M k = sU σ q (a + k)) → rb_WP Z G 7 120 [.ref (rb_ad G 9 0), .int (nI q), .int (nI a), .int (nI q2), .int (nI a2), .int (nI n), .int (nI i)] [] (rb_rowl H 9 15 M) := by
  intro fu
  induction fu with
  | zero => intro i M hi hf hz; omega
  | succ fu ih =>
    intro i M hi hf hz
    refine rb_iload X (pc := 120) dX5_copy_120 rfl ?_
    refine rb_iload X (pc := 122) dX5_copy_122 rfl ?_
    refine rb_icmp_ge X (pc := 124) (tgt := 154) dX5_copy_124 (by decide) (fun c124 => ?_) (fun c124 => ?_)
    · have hi2 := (sp_geI (n := n) rfl (by omega) (by omega)).mp c124
      obtain rfl : i = n := by omega
      refine rb_iconst (v := 0) X (pc := 154) dX5_copy_154 (by decide) ?_
      refine rb_istore X (pc := 155) dX5_copy_155 (by decide) rfl rfl ?_
      exact sp_go rfl rb_rowl_self.symm (lpX5_copy_157 hq2 hn2 hn1 hM ho hz hp X Y (i + 1) 0 _ (by omega) (by omega) (fun s hs k hk => by
        rw [if_neg (by omega), rb_rowl_ne (by decide)]
        exact (hM.2.2.2.2.2.2 s hs).2.2 k hk))
    · have hi2 : i < n := Nat.lt_of_not_le (fun z => c124 ((sp_geI (n := n) rfl (by omega) (by omega)).mpr z))
      refine rb_aload_n X (pc := 127) dX5_copy_127 rfl rfl ?_
      refine rc_getR X (pc := 128) fX5_38 rb_ob9 rfl dX5_copy_128 ?_
      refine rb_iload X (pc := 131) dX5_copy_131 rfl ?_
      refine rb_aload_n X (pc := 133) dX5_copy_133 rfl rfl ?_
      refine rc_getR X (pc := 134) fX5_34 rb_ob9 rfl dX5_copy_134 ?_
      refine rb_bipush (v := 40) X (pc := 137) dX5_copy_137 (by decide) ?_
      refine rb_iload_n X (pc := 139) dX5_copy_139 rfl rfl ?_
      refine rb_imul X (pc := 140) dX5_copy_140 ?_
      refine rb_iload_n X (pc := 141) dX5_copy_141 rfl rfl ?_
      refine rb_iadd X (pc := 142) dX5_copy_142 ?_
      refine rb_iload X (pc := 143) dX5_copy_143 rfl ?_
      refine rb_iadd X (pc := 145) dX5_copy_145 ?_
      refine rc_lald X (pc := 146) (40 * q + (a + i)) rb_ar9_14 (rb_rowl_ne (by decide)) (by rw [sp_40, nI_add, Nat.add_assoc]) (by omega) dX5_copy_146 ?_
      rw [(hM.2.2.2.2.2.2 q hq).2.2 (a + i) (by omega)]
      refine rc_last X (pc := 147) i rb_ar9_15 rb_ul_rowl rfl (by omega) dX5_copy_147 ?_
      refine rb_iinc X (pc := 148) dX5_copy_148 rfl (sp_inc _) (by decide) rfl rfl ?_
      refine rb_goto X (pc := 151) (tgt := 120) dX5_copy_151 (by decide) ?_
      exact sp_go rfl rfl (ih (i + 1) _ (by omega) (by omega) (fun k hk => by
        simp only [va_up]
        by_cases e : k = i
        · rw [if_pos e, e]
        · rw [if_neg e]; exact hz k (by omega)))
set_option maxRecDepth 100000 in
set_option maxHeartbeats 1000000 in
theorem qX5_copy {G : rb_G} {σ : Sg} {h : rb_H} (hS : okS σ) (hM : MI σ h)  (s f t o n : Int32) : rb_M G 2 yX5_copy cX5_copy 7 (some .int) [.ref (rb_ad G 9 0), .int s, .int f, .int t, .int o, .int n] (h) (PM h (r_copy σ s f t o n)) := by
  refine rb_meth (L := [.ref (rb_ad G 9 0), .int s, .int f, .int t, .int o, .int n, .null]) (by decide) (Nat.le_of_ble_eq_true rfl) rfl (fun Z X Y => ?_)
  have X : rb_CX Z G cX5_copy 7 RX5 2 := X
  obtain ⟨h, rfl⟩ : ∃ h0, h = ms h0 (sT σ) := ⟨h, (rb_row_self hM.1).symm⟩
  have hok := hS.1
  have hn4 := hok.1
  have hn10 := hok.2.1
  refine rb_iload_n X (pc := 0) dX5_copy_0 rfl rfl ?_
  refine rc_callSi X (pc := 1) cvX5_isOne mX5_313 (qX5_isOne _) (by decide) rfl rfl (Nat.le_of_ble_eq_true rfl) dX5_copy_1 ?_
  refine rb_if_eq X (pc := 4) (tgt := 14) dX5_copy_4 (by decide) (fun c4 => ?_) (fun c4 => ?_)
  · (try simp only [sp_b0, Classical.not_not] at c4)
    refine rb_aload_n X (pc := 14) dX5_copy_14 rfl rfl ?_
    refine rb_ldc X (pc := 15) dX5_copy_15 kX5_45 ?_
    refine rc_callVi X (pc := 17) cvX5_finds mX5_74 rb_ob9 (qX5_finds (i := 0) (by decide) (by decide)) (by decide) rfl rfl (Nat.le_of_ble_eq_true rfl) dX5_copy_17 ?_
    refine rb_iret (S := []) X (pc := 20) Y dX5_copy_20 ?_
    exact pm_f hM (by simp [r_copy, ff_0, *]; done)
  · (try simp only [sp_b0, Classical.not_not] at c4)
    refine rb_iload_n X (pc := 7) dX5_copy_7 rfl rfl ?_
    refine rc_callSi X (pc := 8) cvX5_isOne mX5_313 (qX5_isOne _) (by decide) rfl rfl (Nat.le_of_ble_eq_true rfl) dX5_copy_8 ?_
    refine rb_if_ne X (pc := 11) (tgt := 21) dX5_copy_11 (by decide) (fun c11 => ?_) (fun c11 => ?_)
    · (try simp only [sp_b0, Classical.not_not] at c11)
      obtain ⟨q, hq, rfl⟩ := iS_of c4
      obtain ⟨q2, hq2, rfl⟩ := iS_of c11
      have eq1 : ix (nI q) = q := nI_clamp (by omega)
      have eq2 : ix (nI q2) = q2 := nI_clamp (by omega)
      have hZ := hS.2.2.2.2 q hq
      have hZ2 := hS.2.2.2.2 q2 hq2
      obtain ⟨hw0, hw1, hw2⟩ := hM.2.2.2.2.2.2 q hq
      obtain ⟨hv0, hv1, hv2⟩ := hM.2.2.2.2.2.2 q2 hq2
      refine rb_aload_n X (pc := 21) dX5_copy_21 rfl rfl ?_
      refine rc_getR X (pc := 22) fX5_28 rb_ob9 rfl dX5_copy_22 ?_
      refine rb_iload_n X (pc := 25) dX5_copy_25 rfl rfl ?_
      refine rc_iald X (pc := 26) q rb_ar9_12 rfl rfl hq dX5_copy_26 ?_
      refine rb_if_eq X (pc := 27) (tgt := 39) dX5_copy_27 (by decide) (fun c27 => ?_) (fun c27 => ?_)
      · rw [hw0] at c27
        have eR : r_copy σ (nI q) f (nI q2) o n = (-1000000006, fnd σ 5) := by rw [r_copy, if_pos (by rw [c4, c11]; rfl), eq1, eq2, if_pos (Or.inl c27), ff_5]
        refine rb_aload_n X (pc := 39) dX5_copy_39 rfl rfl ?_
        refine rb_ldcw X (pc := 40) dX5_copy_40 kX5_317 ?_
        refine rc_callVi X (pc := 43) cvX5_finds mX5_74 rb_ob9 (qX5_finds (i := 5) (by decide) (by decide)) (by decide) rfl rfl (Nat.le_of_ble_eq_true rfl) dX5_copy_43 ?_
        refine rb_iret (S := []) X (pc := 46) Y dX5_copy_46 ?_
        exact pm_f hM eR
      · rw [hw0] at c27
        refine rb_aload_n X (pc := 30) dX5_copy_30 rfl rfl ?_
        refine rc_getR X (pc := 31) fX5_28 rb_ob9 rfl dX5_copy_31 ?_
        refine rb_iload_n X (pc := 34) dX5_copy_34 rfl rfl ?_
        refine rc_iald X (pc := 35) q2 rb_ar9_12 rfl rfl hq2 dX5_copy_35 ?_
        refine rb_if_ne X (pc := 36) (tgt := 47) dX5_copy_36 (by decide) (fun c36 => ?_) (fun c36 => ?_)
        · rw [hv0] at c36
          refine rb_aload_n X (pc := 47) dX5_copy_47 rfl rfl ?_
          refine rc_getR X (pc := 48) fX5_28 rb_ob9 rfl dX5_copy_48 ?_
          refine rb_iload_n X (pc := 51) dX5_copy_51 rfl rfl ?_
          refine rc_iald X (pc := 52) q rb_ar9_12 rfl rfl hq dX5_copy_52 ?_
          refine rb_aload_n X (pc := 53) dX5_copy_53 rfl rfl ?_
          refine rc_getR X (pc := 54) fX5_28 rb_ob9 rfl dX5_copy_54 ?_
          refine rb_iload_n X (pc := 57) dX5_copy_57 rfl rfl ?_
          refine rc_iald X (pc := 58) q2 rb_ar9_12 rfl rfl hq2 dX5_copy_58 ?_
          refine rb_icmp_eq X (pc := 59) (tgt := 69) dX5_copy_59 (by decide) (fun c59 => ?_) (fun c59 => ?_)
          · rw [hw0, hv0] at c59
            refine rb_iload_n X (pc := 69) dX5_copy_69 rfl rfl ?_
            refine rb_if_lt X (pc := 70) (tgt := 110) dX5_copy_70 (by decide) (fun c70 => ?_) (fun c70 => ?_)
            · have eR : r_copy σ (nI q) f (nI q2) o n = (-1000000001, fnd σ 0) := by rw [r_copy, if_pos (by rw [c4, c11]; rfl), eq1, eq2, if_neg (fun z => z.elim c27 c36), if_neg (fun z => z c59), if_neg (fun z => absurd (iG_0 (Bool.and_eq_true_iff.mp z).1).1 (Int32.not_le.mpr c70)), ff_0]
              refine rb_aload_n X (pc := 110) dX5_copy_110 rfl rfl ?_
              refine rb_ldc X (pc := 111) dX5_copy_111 kX5_45 ?_
              refine rc_callVi X (pc := 113) cvX5_finds mX5_74 rb_ob9 (qX5_finds (i := 0) (by decide) (by decide)) (by decide) rfl rfl (Nat.le_of_ble_eq_true rfl) dX5_copy_113 ?_
              refine rb_iret (S := []) X (pc := 116) Y dX5_copy_116 ?_
              exact pm_f hM eR
            · refine rb_iload X (pc := 73) dX5_copy_73 rfl ?_
              refine rb_if_lt X (pc := 75) (tgt := 110) dX5_copy_75 (by decide) (fun c75 => ?_) (fun c75 => ?_)
              · have eR : r_copy σ (nI q) f (nI q2) o n = (-1000000001, fnd σ 0) := by rw [r_copy, if_pos (by rw [c4, c11]; rfl), eq1, eq2, if_neg (fun z => z.elim c27 c36), if_neg (fun z => z c59), if_neg (fun z => absurd (iG_0 (Bool.and_eq_true_iff.mp z).2).1 (Int32.not_le.mpr c75)), ff_0]
                refine rb_aload_n X (pc := 110) dX5_copy_110 rfl rfl ?_
                refine rb_ldc X (pc := 111) dX5_copy_111 kX5_45 ?_
                refine rc_callVi X (pc := 113) cvX5_finds mX5_74 rb_ob9 (qX5_finds (i := 0) (by decide) (by decide)) (by decide) rfl rfl (Nat.le_of_ble_eq_true rfl) dX5_copy_113 ?_
                refine rb_iret (S := []) X (pc := 116) Y dX5_copy_116 ?_
                exact pm_f hM eR
              · refine rb_iload X (pc := 78) dX5_copy_78 rfl ?_
                refine rb_if_lt X (pc := 80) (tgt := 110) dX5_copy_80 (by decide) (fun c80 => ?_) (fun c80 => ?_)
                · have eR : r_copy σ (nI q) f (nI q2) o n = (-1000000001, fnd σ 0) := by rw [r_copy, if_pos (by rw [c4, c11]; rfl), eq1, eq2, if_neg (fun z => z.elim c27 c36), if_neg (fun z => z c59), if_neg (fun z => absurd (iG_0 (Bool.and_eq_true_iff.mp z).1).2 (Int32.not_le.mpr c80)), ff_0]
                  refine rb_aload_n X (pc := 110) dX5_copy_110 rfl rfl ?_
                  refine rb_ldc X (pc := 111) dX5_copy_111 kX5_45 ?_
                  refine rc_callVi X (pc := 113) cvX5_finds mX5_74 rb_ob9 (qX5_finds (i := 0) (by decide) (by decide)) (by decide) rfl rfl (Nat.le_of_ble_eq_true rfl) dX5_copy_113 ?_
                  refine rb_iret (S := []) X (pc := 116) Y dX5_copy_116 ?_
                  exact pm_f hM eR
                · refine rb_iload X (pc := 83) dX5_copy_83 rfl ?_
                  refine rb_aload_n X (pc := 85) dX5_copy_85 rfl rfl ?_
                  refine rc_getR X (pc := 86) fX5_31 rb_ob9 rfl dX5_copy_86 ?_
                  refine rb_iload_n X (pc := 89) dX5_copy_89 rfl rfl ?_
                  refine rc_iald X (pc := 90) q rb_ar9_13 rfl rfl hq dX5_copy_90 ?_
                  refine rb_iload_n X (pc := 91) dX5_copy_91 rfl rfl ?_
                  refine rb_isub X (pc := 92) dX5_copy_92 ?_
                  refine rb_icmp_gt X (pc := 93) (tgt := 110) dX5_copy_93 (by decide) (fun c93 => ?_) (fun c93 => ?_)
                  · rw [hw1] at c93
                    have eR : r_copy σ (nI q) f (nI q2) o n = (-1000000001, fnd σ 0) := by rw [r_copy, if_pos (by rw [c4, c11]; rfl), eq1, eq2, if_neg (fun z => z.elim c27 c36), if_neg (fun z => z c59), if_neg (fun z => absurd ((iG_m hZ (Int32.not_lt.mp c70) (Int32.not_lt.mp c80)).mp (Bool.and_eq_true_iff.mp z).1) (Int32.not_le.mpr c93)), ff_0]
                    refine rb_aload_n X (pc := 110) dX5_copy_110 rfl rfl ?_
                    refine rb_ldc X (pc := 111) dX5_copy_111 kX5_45 ?_
                    refine rc_callVi X (pc := 113) cvX5_finds mX5_74 rb_ob9 (qX5_finds (i := 0) (by decide) (by decide)) (by decide) rfl rfl (Nat.le_of_ble_eq_true rfl) dX5_copy_113 ?_
                    refine rb_iret (S := []) X (pc := 116) Y dX5_copy_116 ?_
                    exact pm_f hM eR
                  · rw [hw1] at c93
                    refine rb_iload X (pc := 96) dX5_copy_96 rfl ?_
                    refine rb_aload_n X (pc := 98) dX5_copy_98 rfl rfl ?_
                    refine rc_getR X (pc := 99) fX5_31 rb_ob9 rfl dX5_copy_99 ?_
                    refine rb_iload_n X (pc := 102) dX5_copy_102 rfl rfl ?_
                    refine rc_iald X (pc := 103) q2 rb_ar9_13 rfl rfl hq2 dX5_copy_103 ?_
                    refine rb_iload X (pc := 104) dX5_copy_104 rfl ?_
                    refine rb_isub X (pc := 106) dX5_copy_106 ?_
                    refine rb_icmp_le X (pc := 107) (tgt := 117) dX5_copy_107 (by decide) (fun c107 => ?_) (fun c107 => ?_)
                    · rw [hv1] at c107
                      have g1 := (iG_m hZ (Int32.not_lt.mp c70) (Int32.not_lt.mp c80)).mpr (Int32.not_lt.mp c93)
                      have g2 := (iG_m hZ2 (Int32.not_lt.mp c75) (Int32.not_lt.mp c80)).mpr c107
                      obtain ⟨a, m, rfl, rfl, ham⟩ := iG_of hZ g1
                      obtain ⟨a2, m2, rfl, hmm, ham2⟩ := iG_of hZ2 g2
                      obtain rfl : m = m2 := (nI_eq (by omega) (by omega)).mp hmm
                      have ea : ix (nI a) = a := nI_clamp (by omega)
                      have ea2 : ix (nI a2) = a2 := nI_clamp (by omega)
                      have em : ix (nI m) = m := nI_clamp (by omega)
                      have eR : r_copy σ (nI q) (nI a) (nI q2) (nI a2) (nI m) = (nI m, wS σ (sW σ) (sZ σ) (va_up (sU σ) q2 (va_cpy (sU σ q) (sU σ q2) a a2 m))) := by rw [r_copy, if_pos (by rw [c4, c11]; rfl), eq1, eq2, if_neg (fun z => z.elim c27 c36), if_neg (fun z => z c59), if_pos (by rw [g1, g2]; rfl), ea, ea2, em]
                      refine rb_iconst (v := 0) X (pc := 117) dX5_copy_117 (by decide) ?_
                      refine rb_istore X (pc := 118) dX5_copy_118 (by decide) rfl rfl ?_
                      exact sp_go rfl rb_rowl_self.symm (lpX5_copy_120 hq hq2 (by omega) (by omega) hM ot_rf eR X Y (m + 1) 0 _ (by omega) (by omega) (fun k hk => absurd hk (by omega)))
                    · rw [hv1] at c107
                      have eR : r_copy σ (nI q) f (nI q2) o n = (-1000000001, fnd σ 0) := by rw [r_copy, if_pos (by rw [c4, c11]; rfl), eq1, eq2, if_neg (fun z => z.elim c27 c36), if_neg (fun z => z c59), if_neg (fun z => c107 ((iG_m hZ2 (Int32.not_lt.mp c75) (Int32.not_lt.mp c80)).mp (Bool.and_eq_true_iff.mp z).2)), ff_0]
                      refine rb_aload_n X (pc := 110) dX5_copy_110 rfl rfl ?_
                      refine rb_ldc X (pc := 111) dX5_copy_111 kX5_45 ?_
                      refine rc_callVi X (pc := 113) cvX5_finds mX5_74 rb_ob9 (qX5_finds (i := 0) (by decide) (by decide)) (by decide) rfl rfl (Nat.le_of_ble_eq_true rfl) dX5_copy_113 ?_
                      refine rb_iret (S := []) X (pc := 116) Y dX5_copy_116 ?_
                      exact pm_f hM eR
          · rw [hw0, hv0] at c59
            have eR : r_copy σ (nI q) f (nI q2) o n = (-1000000003, fnd σ 2) := by rw [r_copy, if_pos (by rw [c4, c11]; rfl), eq1, eq2, if_neg (fun z => z.elim c27 c36), if_pos c59, ff_2]
            refine rb_aload_n X (pc := 62) dX5_copy_62 rfl rfl ?_
            refine rb_ldc X (pc := 63) dX5_copy_63 kX5_121 ?_
            refine rc_callVi X (pc := 65) cvX5_finds mX5_74 rb_ob9 (qX5_finds (i := 2) (by decide) (by decide)) (by decide) rfl rfl (Nat.le_of_ble_eq_true rfl) dX5_copy_65 ?_
            refine rb_iret (S := []) X (pc := 68) Y dX5_copy_68 ?_
            exact pm_f hM eR
        · rw [hv0] at c36
          have c36 : sW σ q2 = 0 := by simpa using c36
          have eR : r_copy σ (nI q) f (nI q2) o n = (-1000000006, fnd σ 5) := by rw [r_copy, if_pos (by rw [c4, c11]; rfl), eq1, eq2, if_pos (Or.inr c36), ff_5]
          refine rb_aload_n X (pc := 39) dX5_copy_39 rfl rfl ?_
          refine rb_ldcw X (pc := 40) dX5_copy_40 kX5_317 ?_
          refine rc_callVi X (pc := 43) cvX5_finds mX5_74 rb_ob9 (qX5_finds (i := 5) (by decide) (by decide)) (by decide) rfl rfl (Nat.le_of_ble_eq_true rfl) dX5_copy_43 ?_
          refine rb_iret (S := []) X (pc := 46) Y dX5_copy_46 ?_
          exact pm_f hM eR
    · (try simp only [sp_b0, Classical.not_not] at c11)
      refine rb_aload_n X (pc := 14) dX5_copy_14 rfl rfl ?_
      refine rb_ldc X (pc := 15) dX5_copy_15 kX5_45 ?_
      refine rc_callVi X (pc := 17) cvX5_finds mX5_74 rb_ob9 (qX5_finds (i := 0) (by decide) (by decide)) (by decide) rfl rfl (Nat.le_of_ble_eq_true rfl) dX5_copy_17 ?_
      refine rb_iret (S := []) X (pc := 20) Y dX5_copy_20 ?_
      exact pm_f hM (by simp [r_copy, ff_0, *]; done)
set_option maxRecDepth 100000 in
set_option maxHeartbeats 1000000 in
theorem lpX5_lays_21 {Z : rb_Z} {G : rb_G} {σ : Sg} {h : rb_H} (hS : okS σ) (hM : MI σ (ms h (sT σ))) {q z : Nat} {u : Nat → Int64} {w0 : Int32} (hq : q < 4) (hz : z ≤ 40) (hz1 : h.1 9 13 q = nI z) (hu : ∀ k, k < 40 → h.2 9 14 (40 * q + k) = u k) {p : Int32 × Sg} (hp : p = (nI (sp_lay u (sT σ) (min z 8)).2, wT σ (sp_lay u (sT σ) (min z 8)).1)) (X : rb_CX Z G cX5_lays 6 RX5 3) (Y : rb_RT Z G (some .int) (PM (ms h (sT σ)) (p))) : ∀ fu : Nat, ∀ (i : Nat), i ≤ z → i ≤ 8 → 9 ≤ i + fu → rb_WP Z G 6 21 [.ref (rb_ad G 9 0), .int (nI q), .int w0, .int (nI (sp_lay u (sT σ) i).2), .int (nI i), .null] [] (ms h (sp_lay u (sT σ) i).1) := by
  intro fu
  induction fu with
  | zero => intro i hi hi8 hf; omega
  | succ fu ih =>
    intro i hi hi8 hf
    refine rb_iload X (pc := 21) dX5_lays_21 rfl ?_
    refine rb_aload_n X (pc := 23) dX5_lays_23 rfl rfl ?_
    refine rc_getR X (pc := 24) fX5_31 rb_ob9 rfl dX5_lays_24 ?_
    refine rb_iload_n X (pc := 27) dX5_lays_27 rfl rfl ?_
    refine rc_iald X (pc := 28) q rb_ar9_13 (ms_ne (by decide)) rfl hq dX5_lays_28 ?_
    rw [hz1]
    refine rb_icmp_ge X (pc := 29) (tgt := 118) dX5_lays_29 (by decide) (fun c29 => ?_) (fun c29 => ?_)
    · have hi2 := (sp_geI (n := z) rfl (by omega) (by omega)).mp c29
      obtain rfl : i = z := by omega
      have hmin : min i 8 = i := by omega
      refine rb_iload_n X (pc := 118) dX5_lays_118 rfl rfl ?_
      refine rb_iret (S := []) X (pc := 119) Y dX5_lays_119 ?_
      exact pm_T hM (by rw [hp, hmin])
    · have hi2 : i < z := Nat.lt_of_not_le (fun w => c29 ((sp_geI (n := z) rfl (by omega) (by omega)).mpr w))
      refine rb_iload X (pc := 32) dX5_lays_32 rfl ?_
      refine rb_bipush (v := 8) X (pc := 34) dX5_lays_34 (by decide) ?_
      refine rb_icmp_ge X (pc := 36) (tgt := 118) dX5_lays_36 (by decide) (fun c36 => ?_) (fun c36 => ?_)
      · have hi3 := (sp_geI (n := 8) rfl (by omega) (by omega)).mp c36
        obtain rfl : i = 8 := by omega
        have hmin : min z 8 = 8 := by omega
        refine rb_iload_n X (pc := 118) dX5_lays_118 rfl rfl ?_
        refine rb_iret (S := []) X (pc := 119) Y dX5_lays_119 ?_
        exact pm_T hM (by rw [hp, hmin])
      · have hi3 : i < 8 := Nat.lt_of_not_le (fun w => c36 ((sp_geI (n := 8) rfl (by omega) (by omega)).mpr w))
        refine rb_aload_n X (pc := 39) dX5_lays_39 rfl rfl ?_
        refine rc_getR X (pc := 40) fX5_34 rb_ob9 rfl dX5_lays_40 ?_
        refine rb_bipush (v := 40) X (pc := 43) dX5_lays_43 (by decide) ?_
        refine rb_iload_n X (pc := 45) dX5_lays_45 rfl rfl ?_
        refine rb_imul X (pc := 46) dX5_lays_46 ?_
        refine rb_iload X (pc := 47) dX5_lays_47 rfl ?_
        refine rb_iadd X (pc := 49) dX5_lays_49 ?_
        refine rc_lald X (pc := 50) (40 * q + i) rb_ar9_14 rfl sp_40 (by omega) dX5_lays_50 ?_
        rw [show (ms h (sp_lay u (sT σ) i).1).2 9 14 (40 * q + i) = u i from hu i (by omega)]
        refine rb_lconst (v := 0) X (pc := 51) dX5_lays_51 (by decide) ?_
        refine rb_ldc2 X (pc := 52) dX5_lays_52 kX5_65 ?_
        refine rc_callSi X (pc := 55) cvX5_in mX5_48 (qX5_in _ _ _) (by decide) rfl rfl (Nat.le_of_ble_eq_true rfl) dX5_lays_55 ?_
        refine rb_istore X (pc := 58) dX5_lays_58 (by decide) rfl rfl ?_
        refine rb_aload_n X (pc := 60) dX5_lays_60 rfl rfl ?_
        refine rc_getR X (pc := 61) fX5_7 rb_ob9 rfl dX5_lays_61 ?_
        refine rb_iload X (pc := 64) dX5_lays_64 rfl ?_
        refine rb_iconst (v := 2) X (pc := 66) dX5_lays_66 (by decide) ?_
        refine rc_callSi X (pc := 67) cvX5_partOf mX5_41 (qX5_partOf (w := 2)) (by decide) rfl rfl (Nat.le_of_ble_eq_true rfl) dX5_lays_67 ?_
        refine rb_iload X (pc := 70) dX5_lays_70 rfl ?_
        refine rb_if_eq X (pc := 72) (tgt := 91) dX5_lays_72 (by decide) (fun c72 => ?_) (fun c72 => ?_)
        · (try simp only [sp_b0, Classical.not_not] at c72)
          refine rb_aload_n X (pc := 91) dX5_lays_91 rfl rfl ?_
          refine rb_iload X (pc := 92) dX5_lays_92 rfl ?_
          refine rb_iconst (v := 2) X (pc := 94) dX5_lays_94 (by decide) ?_
          refine rc_callVi X (pc := 95) cvX5_has mX5_84 rb_ob9 (qH2 (by omega)) (by decide) rfl rfl (Nat.le_of_ble_eq_true rfl) dX5_lays_95 ?_
          refine rc_iast X (pc := 98) _ rb_ar9_0 (ms_p2 (by omega)) rfl (by omega) dX5_lays_98 ?_
          refine rb_iload_n X (pc := 99) dX5_lays_99 rfl rfl ?_
          refine rb_iload X (pc := 100) dX5_lays_100 rfl ?_
          refine rb_if_eq X (pc := 102) (tgt := 109) dX5_lays_102 (by decide) (fun c102 => ?_) (fun c102 => ?_)
          · (try simp only [sp_b0, Classical.not_not] at c102)
            refine rb_iconst (v := 0) X (pc := 109) dX5_lays_109 (by decide) ?_
            refine rb_iadd X (pc := 110) dX5_lays_110 ?_
            refine rb_istore_n X (pc := 111) dX5_lays_111 rfl (by decide) rfl rfl ?_
            refine rb_iinc X (pc := 112) dX5_lays_112 rfl (sp_inc _) (by decide) rfl rfl ?_
            refine rb_goto X (pc := 115) (tgt := 21) dX5_lays_115 (by decide) ?_
            first
            | exact absurd c72 c102
            | exact absurd c102 c72
            | exact sp_drop 5 (sp_go (by simp only [sp_lay_s, sp_lay1, if_pos c72, nI_1]; rfl) (by rw [sp_lay_s, sp_lay1, if_pos c72]) (ih (i + 1) (by omega) (by omega) (by omega)))
            | exact sp_drop 5 (sp_go (by simp only [sp_lay_s, sp_lay1, if_neg c72, Int32.add_zero]; rfl) (by rw [sp_lay_s, sp_lay1, if_neg c72, u2_self rfl]) (ih (i + 1) (by omega) (by omega) (by omega)))
          · (try simp only [sp_b0, Classical.not_not] at c102)
            refine rb_iconst (v := 1) X (pc := 105) dX5_lays_105 (by decide) ?_
            refine rb_goto X (pc := 106) (tgt := 110) dX5_lays_106 (by decide) ?_
            refine rb_iadd X (pc := 110) dX5_lays_110 ?_
            refine rb_istore_n X (pc := 111) dX5_lays_111 rfl (by decide) rfl rfl ?_
            refine rb_iinc X (pc := 112) dX5_lays_112 rfl (sp_inc _) (by decide) rfl rfl ?_
            refine rb_goto X (pc := 115) (tgt := 21) dX5_lays_115 (by decide) ?_
            first
            | exact absurd c72 c102
            | exact absurd c102 c72
            | exact sp_drop 5 (sp_go (by simp only [sp_lay_s, sp_lay1, if_pos c72, nI_1]; rfl) (by rw [sp_lay_s, sp_lay1, if_pos c72]) (ih (i + 1) (by omega) (by omega) (by omega)))
            | exact sp_drop 5 (sp_go (by simp only [sp_lay_s, sp_lay1, if_neg c72, Int32.add_zero]; rfl) (by rw [sp_lay_s, sp_lay1, if_neg c72, u2_self rfl]) (ih (i + 1) (by omega) (by omega) (by omega)))
        · (try simp only [sp_b0, Classical.not_not] at c72)
          refine rb_aload_n X (pc := 75) dX5_lays_75 rfl rfl ?_
          refine rc_getR X (pc := 76) fX5_34 rb_ob9 rfl dX5_lays_76 ?_
          refine rb_bipush (v := 40) X (pc := 79) dX5_lays_79 (by decide) ?_
          refine rb_iload_n X (pc := 81) dX5_lays_81 rfl rfl ?_
          refine rb_imul X (pc := 82) dX5_lays_82 ?_
          refine rb_iload X (pc := 83) dX5_lays_83 rfl ?_
          refine rb_iadd X (pc := 85) dX5_lays_85 ?_
          refine rc_lald X (pc := 86) (40 * q + i) rb_ar9_14 rfl sp_40 (by omega) dX5_lays_86 ?_
          rw [show (ms h (sp_lay u (sT σ) i).1).2 9 14 (40 * q + i) = u i from hu i (by omega)]
          refine rb_l2i X (pc := 87) dX5_lays_87 ?_
          refine rb_goto X (pc := 88) (tgt := 98) dX5_lays_88 (by decide) ?_
          refine rc_iast X (pc := 98) _ rb_ar9_0 (ms_p2 (by omega)) rfl (by omega) dX5_lays_98 ?_
          refine rb_iload_n X (pc := 99) dX5_lays_99 rfl rfl ?_
          refine rb_iload X (pc := 100) dX5_lays_100 rfl ?_
          refine rb_if_eq X (pc := 102) (tgt := 109) dX5_lays_102 (by decide) (fun c102 => ?_) (fun c102 => ?_)
          · (try simp only [sp_b0, Classical.not_not] at c102)
            refine rb_iconst (v := 0) X (pc := 109) dX5_lays_109 (by decide) ?_
            refine rb_iadd X (pc := 110) dX5_lays_110 ?_
            refine rb_istore_n X (pc := 111) dX5_lays_111 rfl (by decide) rfl rfl ?_
            refine rb_iinc X (pc := 112) dX5_lays_112 rfl (sp_inc _) (by decide) rfl rfl ?_
            refine rb_goto X (pc := 115) (tgt := 21) dX5_lays_115 (by decide) ?_
            first
            | exact absurd c72 c102
            | exact absurd c102 c72
            | exact sp_drop 5 (sp_go (by simp only [sp_lay_s, sp_lay1, if_pos c72, nI_1]; rfl) (by rw [sp_lay_s, sp_lay1, if_pos c72]) (ih (i + 1) (by omega) (by omega) (by omega)))
            | exact sp_drop 5 (sp_go (by simp only [sp_lay_s, sp_lay1, if_neg c72, Int32.add_zero]; rfl) (by rw [sp_lay_s, sp_lay1, if_neg c72, u2_self rfl]) (ih (i + 1) (by omega) (by omega) (by omega)))
          · (try simp only [sp_b0, Classical.not_not] at c102)
            refine rb_iconst (v := 1) X (pc := 105) dX5_lays_105 (by decide) ?_
            refine rb_goto X (pc := 106) (tgt := 110) dX5_lays_106 (by decide) ?_
            refine rb_iadd X (pc := 110) dX5_lays_110 ?_
            refine rb_istore_n X (pc := 111) dX5_lays_111 rfl (by decide) rfl rfl ?_
            refine rb_iinc X (pc := 112) dX5_lays_112 rfl (sp_inc _) (by decide) rfl rfl ?_
            refine rb_goto X (pc := 115) (tgt := 21) dX5_lays_115 (by decide) ?_
            first
            | exact absurd c72 c102
            | exact absurd c102 c72
            | exact sp_drop 5 (sp_go (by simp only [sp_lay_s, sp_lay1, if_pos c72, nI_1]; rfl) (by rw [sp_lay_s, sp_lay1, if_pos c72]) (ih (i + 1) (by omega) (by omega) (by omega)))
            | exact sp_drop 5 (sp_go (by simp only [sp_lay_s, sp_lay1, if_neg c72, Int32.add_zero]; rfl) (by rw [sp_lay_s, sp_lay1, if_neg c72, u2_self rfl]) (ih (i + 1) (by omega) (by omega) (by omega)))
set_option maxRecDepth 100000 in
set_option maxHeartbeats 1000000 in
theorem qX5_lays {G : rb_G} {σ : Sg} {h : rb_H} (hS : okS σ) (hM : MI σ h)  (s : Int32) : rb_M G 3 yX5_lays cX5_lays 6 (some .int) [.ref (rb_ad G 9 0), .int s] (h) (PM h (r_lays σ s)) := by
  refine rb_meth (L := [.ref (rb_ad G 9 0), .int s, .null, .null, .null, .null]) (by decide) (Nat.le_of_ble_eq_true rfl) rfl (fun Z X Y => ?_)
  have X : rb_CX Z G cX5_lays 6 RX5 3 := X
  obtain ⟨h, rfl⟩ : ∃ h0, h = ms h0 (sT σ) := ⟨h, (rb_row_self hM.1).symm⟩
  have hok := hS.1
  have hn4 := hok.1
  have hn10 := hok.2.1
  refine rb_aload_n X (pc := 0) dX5_lays_0 rfl rfl ?_
  refine rb_iload_n X (pc := 1) dX5_lays_1 rfl rfl ?_
  refine rc_callVi X (pc := 2) cvX5_wrongSheet mX5_318 rb_ob9 (qX5_wrongSheet hM _) (by decide) rfl rfl (Nat.le_of_ble_eq_true rfl) dX5_lays_2 ?_
  refine rb_istore_n X (pc := 5) dX5_lays_5 rfl (by decide) rfl rfl ?_
  refine rb_iload_n X (pc := 6) dX5_lays_6 rfl rfl ?_
  refine rb_if_eq X (pc := 7) (tgt := 16) dX5_lays_7 (by decide) (fun c7 => ?_) (fun c7 => ?_)
  · obtain ⟨k1, k2⟩ := w_sh_yes c7
    obtain ⟨q, hq, rfl⟩ := iS_of k1
    have eq1 : ix (nI q) = q := nI_clamp (by omega)
    rw [eq1] at k2
    have hZ := hS.2.2.2.2 q hq
    obtain ⟨hw0, hw1, hw2⟩ := hM.2.2.2.2.2.2 q hq
    refine rb_iconst (v := 0) X (pc := 16) dX5_lays_16 (by decide) ?_
    refine rb_istore_n X (pc := 17) dX5_lays_17 rfl (by decide) rfl rfl ?_
    refine rb_iconst (v := 0) X (pc := 18) dX5_lays_18 (by decide) ?_
    refine rb_istore X (pc := 19) dX5_lays_19 (by decide) rfl rfl ?_
    exact sp_go (by rw [sp_lay_0]; rfl) (by rw [sp_lay_0]) (lpX5_lays_21 hS hM hq hZ (show h.1 9 13 q = nI (sZ σ q) from hw1) hw2 (by rw [r_lays, if_pos k1, eq1, if_neg k2]) X Y 9 0 (by omega) (by omega) (by omega))
  · obtain ⟨i7, hfe⟩ := w_sh_no c7
    refine rb_aload_n X (pc := 10) dX5_lays_10 rfl rfl ?_
    refine rb_iload_n X (pc := 11) dX5_lays_11 rfl rfl ?_
    refine rc_callVi X (pc := 12) cvX5_finds mX5_74 rb_ob9 (qX5_finds (i := w_shN σ s) i7 (by rw [hfe]; exact w_fi _ i7)) (by decide) rfl rfl (Nat.le_of_ble_eq_true rfl) dX5_lays_12 ?_
    refine rb_iret (S := []) X (pc := 15) Y dX5_lays_15 ?_
    exact pm_f hM (by rw [w_sh_l i7, hfe]; rfl)
