section RB5
variable {Z : rb_Z} {G : rb_G} {cc : ByteArray} {nL : Nat} {own : String} {k pc : Nat} {L S : List Value} {h : rb_H}
theorem rc_copyL (X : rb_CX Z G cc nL own k) {idx o1 j1 o2 j2 n1 n2 : Nat} (lk : Cond.methodLink own idx arraycopyName ∈ lw_tbl) (hk : 0 < k) (hcat : (S.map fun v => v.category).sum ≤ 8) (a1 : rb_ar o1 j1 1 n1) (a2 : rb_ar o2 j2 1 n2) {f t m : Nat} (hb : f < 2 ^ 31 ∧ t < 2 ^ 31 ∧ m < 2 ^ 31) (h1 : f + m ≤ n1) (h2 : t + m ≤ n2) (d : decode cc pc = .ok (.invokestatic idx, 3)) (kk : rb_WP Z G nL (pc + 3) L S (rb_rowl h o2 j2 (va_cpy (h.2 o1 j1) (h.2 o2 j2) f t m))) : rb_WP Z G nL pc L (.int (nI m) :: .int (nI t) :: .ref (rb_ad G o2 (j2 + 1)) :: .int (nI f) :: .ref (rb_ad G o1 (j1 + 1)) :: S) h := by
  obtain ⟨p, l, e, R, s, mm, args, below, meth, c, A, cells, slots, Q⟩ := Z
  obtain ⟨hx, hbb, hml, hown, hsw, hA, hA2, hf, hlo, hce, hso⟩ := X
  intro H locs ls hP hS hl
  obtain ⟨q1, hq1, ha1⟩ := rb_at (G := G) (h := h) a1.1
  obtain ⟨q2, hq2, ha2⟩ := rb_at (G := G) (h := h) a2.1
  rw [rb_cl_l a1.2] at ha1
  rw [rb_cl_l a2.2] at ha2
  have e1 := nI_clamp hb.1
  have e2 := nI_clamp hb.2.1
  have e3 := nI_clamp hb.2.2
  have hset : (rb_cw G h).set q2 (rb_ad G o2 (j2 + 1), .inl (G.2.1 1, n2, .inr (.inl (va_cpy (h.2 o1 j1) (h.2 o2 j2) (nI f).toNatClampNeg (nI t).toNatClampNeg (nI m).toNatClampNeg)))) = rb_cw G (rb_rowl h o2 j2 (va_cpy (h.2 o1 j1) (h.2 o2 j2) f t m)) := rb_set hq2 (by rw [rb_rowl_cl a2.1 a2.2, e1, e2, e3]) rb_rowl_oth
  have hcp := rc_nfw
  exact va_copyl (ty := .long) hx hbb (by rw [hml, hl.1]) hown (hsw.1.use lk rfl _) (hsw.1.use (w := Cond.native arraycopyName) (by decide +kernel) rfl _) (hsw.1.use (w := Cond.static arraycopyName) (by decide +kernel) rfl _) (hsw.1.use (w := Cond.initialized "java/lang/System") wI_J10 rfl _) hsw.2.1 hP (rb_D hsw.2.2.1 hA) hS q1 q2 1 1 ha1 ha2 rfl rfl rfl (nI_pos hb.1) (nI_pos hb.2.1) (nI_pos hb.2.2) (by rw [e1, e3]; exact h1) (by rw [e2, e3]; exact h2) (fun _ _ => rfl) (by omega) (by omega) d (fun H1 locs1 hP1 _ hS1 => kk H1 locs1 ls (hset ▸ hP1) hS1 hl)
end RB5
theorem iG_of {f n : Int32} {z : Nat} (hz : z ≤ 40) (h : iG f n (nI z) = true) : ∃ a m, f = nI a ∧ n = nI m ∧ a + m ≤ z := by
  simp only [iG, decide_eq_true_eq] at h
  obtain ⟨h1, h2, h3, h4⟩ := h
  obtain ⟨m, hm, rfl⟩ := sp_rngL (n := z) (by omega) h2 h3
  rw [pk_sub hm] at h4
  obtain ⟨a, ha, rfl⟩ := sp_rngL (n := z - m) (by omega) h1 h4
  exact ⟨a, m, rfl, rfl, by omega⟩
set_option maxRecDepth 100000 in
set_option maxHeartbeats 1000000 in
theorem qX4_copy {G : rb_G} {σ : Sg} {h : rb_H} (hS : okS σ) (hC : CI σ h)  (s f t o n : Int32) : rb_M G 1 yX4_copy cX4_copy 8 (some .int) [.ref (rb_ad G 8 0), .int s, .int f, .int t, .int o, .int n] (h) (PC h (r_copy σ s f t o n)) := by
  refine rb_meth (L := [.ref (rb_ad G 8 0), .int s, .int f, .int t, .int o, .int n, .null, .null]) (by decide) (Nat.le_of_ble_eq_true rfl) rfl (fun Z X Y => ?_)
  have X : rb_CX Z G cX4_copy 8 RX4 1 := X
  obtain ⟨h, rfl⟩ : ∃ h0, h = tw h0 0 (sT σ) := ⟨h, (rb_st_self hC.1).symm⟩
  have hok := hS.1
  have hn4 := hok.1
  have hn10 := hok.2.1
  refine rb_iload_n X (pc := 0) dX4_copy_0 rfl rfl ?_
  refine rc_callSi X (pc := 1) cvX4_isSheet mX4_201 (qX4_isSheet _) (by decide) rfl rfl (Nat.le_of_ble_eq_true rfl) dX4_copy_1 ?_
  refine rb_if_eq X (pc := 4) (tgt := 14) dX4_copy_4 (by decide) (fun c4 => ?_) (fun c4 => ?_)
  · (try simp only [sp_b0, Classical.not_not] at c4)
    refine rb_aload_n X (pc := 14) dX4_copy_14 rfl rfl ?_
    refine rb_ldc X (pc := 15) dX4_copy_15 kX4_56 ?_
    refine rc_callVi X (pc := 17) cvX4_finding mX4_57 rb_ob8 (qX4_finding (i := 0) (by decide) (by decide)) (by decide) rfl rfl (Nat.le_of_ble_eq_true rfl) dX4_copy_17 ?_
    refine rb_iret (S := []) X (pc := 20) Y dX4_copy_20 ?_
    exact pc_f hC (by simp [r_copy, ff_0, *]; done)
  · (try simp only [sp_b0, Classical.not_not] at c4)
    refine rb_iload_n X (pc := 7) dX4_copy_7 rfl rfl ?_
    refine rc_callSi X (pc := 8) cvX4_isSheet mX4_201 (qX4_isSheet _) (by decide) rfl rfl (Nat.le_of_ble_eq_true rfl) dX4_copy_8 ?_
    refine rb_if_ne X (pc := 11) (tgt := 21) dX4_copy_11 (by decide) (fun c11 => ?_) (fun c11 => ?_)
    · (try simp only [sp_b0, Classical.not_not] at c11)
      obtain ⟨q, hq, rfl⟩ := iS_of c4
      obtain ⟨q2, hq2, rfl⟩ := iS_of c11
      have eq1 : ix (nI q) = q := nI_clamp (by omega)
      have eq2 : ix (nI q2) = q2 := nI_clamp (by omega)
      have hZ := hS.2.2.2.2 q hq
      have hZ2 := hS.2.2.2.2 q2 hq2
      obtain ⟨hw0, hw1, hw2⟩ := hC.2.2.2.2.2.2 q hq
      obtain ⟨hv0, hv1, hv2⟩ := hC.2.2.2.2.2.2 q2 hq2
      refine rb_aload_n X (pc := 21) dX4_copy_21 rfl rfl ?_
      refine rc_getR X (pc := 22) fX4_35 rb_ob8 rfl dX4_copy_22 ?_
      refine rb_iload_n X (pc := 25) dX4_copy_25 rfl rfl ?_
      refine rb_aald X (pc := 26) _ rfl (by omega) dX4_copy_26 ?_
      refine rb_astore X (pc := 27) dX4_copy_27 (by decide) rfl rfl ?_
      refine rb_aload_n X (pc := 29) dX4_copy_29 rfl rfl ?_
      refine rc_getR X (pc := 30) fX4_35 rb_ob8 rfl dX4_copy_30 ?_
      refine rb_iload_n X (pc := 33) dX4_copy_33 rfl rfl ?_
      refine rb_aald X (pc := 34) _ rfl (by omega) dX4_copy_34 ?_
      refine rb_astore X (pc := 35) dX4_copy_35 (by decide) rfl rfl ?_
      refine rb_aload X (pc := 37) dX4_copy_37 rfl ?_
      refine rc_callVi X (pc := 39) cvX1_isMissing mX4_209 (rb_obS hq) (qX1_isMissing hq) (by decide) rfl rfl (Nat.le_of_ble_eq_true rfl) dX4_copy_39 ?_
      refine rb_if_ne X (pc := 42) (tgt := 53) dX4_copy_42 (by decide) (fun c42 => ?_) (fun c42 => ?_)
      · (try simp only [sp_b0, Classical.not_not] at c42)
        rw [hw0] at c42
        refine rb_aload_n X (pc := 53) dX4_copy_53 rfl rfl ?_
        refine rb_ldc X (pc := 54) dX4_copy_54 kX4_212 ?_
        refine rc_callVi X (pc := 56) cvX4_finding mX4_57 rb_ob8 (qX4_finding (i := 5) (by decide) (by decide)) (by decide) rfl rfl (Nat.le_of_ble_eq_true rfl) dX4_copy_56 ?_
        refine rb_iret (S := []) X (pc := 59) Y dX4_copy_59 ?_
        exact pc_f hC (by rw [r_copy, if_pos (by rw [c4, c11]; rfl), eq1, eq2, if_pos (by first | exact Or.inl c42 | exact Or.inr c50), ff_5])
      · (try simp only [sp_b0, Classical.not_not] at c42)
        rw [hw0] at c42
        refine rb_aload X (pc := 45) dX4_copy_45 rfl ?_
        refine rc_callVi X (pc := 47) cvX1_isMissing mX4_209 (rb_obS hq2) (qX1_isMissing hq2) (by decide) rfl rfl (Nat.le_of_ble_eq_true rfl) dX4_copy_47 ?_
        refine rb_if_eq X (pc := 50) (tgt := 60) dX4_copy_50 (by decide) (fun c50 => ?_) (fun c50 => ?_)
        · (try simp only [sp_b0, Classical.not_not] at c50)
          rw [hv0] at c50
          refine rb_aload X (pc := 60) dX4_copy_60 rfl ?_
          refine rc_getI X (pc := 62) fX4_221 (rb_obS hq) rfl hw0 dX4_copy_62 ?_
          refine rb_aload X (pc := 65) dX4_copy_65 rfl ?_
          refine rc_getI X (pc := 67) fX4_221 (rb_obS hq2) rfl hv0 dX4_copy_67 ?_
          refine rb_icmp_eq X (pc := 70) (tgt := 80) dX4_copy_70 (by decide) (fun c70 => ?_) (fun c70 => ?_)
          · refine rb_aload X (pc := 80) dX4_copy_80 rfl ?_
            refine rb_iload_n X (pc := 82) dX4_copy_82 rfl rfl ?_
            refine rb_iload X (pc := 83) dX4_copy_83 rfl ?_
            refine rc_callVi X (pc := 85) cvX1_hasRange mX4_224 (rb_obS hq) (qX1_hasRange hq _ _) (by decide) rfl rfl (Nat.le_of_ble_eq_true rfl) dX4_copy_85 ?_
            refine rb_if_eq X (pc := 88) (tgt := 103) dX4_copy_88 (by decide) (fun c88 => ?_) (fun c88 => ?_)
            · (try simp only [sp_b0, Classical.not_not] at c88)
              rw [hw1] at c88
              refine rb_aload_n X (pc := 103) dX4_copy_103 rfl rfl ?_
              refine rb_ldc X (pc := 104) dX4_copy_104 kX4_56 ?_
              refine rc_callVi X (pc := 106) cvX4_finding mX4_57 rb_ob8 (qX4_finding (i := 0) (by decide) (by decide)) (by decide) rfl rfl (Nat.le_of_ble_eq_true rfl) dX4_copy_106 ?_
              refine rb_iret (S := []) X (pc := 109) Y dX4_copy_109 ?_
              exact pc_f hC (by rw [r_copy, if_pos (by rw [c4, c11]; rfl), eq1, eq2, if_neg (fun z => z.elim c42 c50), if_neg (fun z => z (by first | exact c70 | simpa using c70)), if_neg, ff_0]; simp only [Bool.and_eq_true]; intro z; first | exact c88 z.1 | exact c100 z.2)
            · (try simp only [sp_b0, Classical.not_not] at c88)
              rw [hw1] at c88
              refine rb_aload X (pc := 91) dX4_copy_91 rfl ?_
              refine rb_iload X (pc := 93) dX4_copy_93 rfl ?_
              refine rb_iload X (pc := 95) dX4_copy_95 rfl ?_
              refine rc_callVi X (pc := 97) cvX1_hasRange mX4_224 (rb_obS hq2) (qX1_hasRange hq2 _ _) (by decide) rfl rfl (Nat.le_of_ble_eq_true rfl) dX4_copy_97 ?_
              refine rb_if_ne X (pc := 100) (tgt := 110) dX4_copy_100 (by decide) (fun c100 => ?_) (fun c100 => ?_)
              · (try simp only [sp_b0, Classical.not_not] at c100)
                rw [hv1] at c100
                obtain ⟨a, m, rfl, rfl, ham⟩ := iG_of hZ c88
                obtain ⟨a2, m2, rfl, hmm, ham2⟩ := iG_of hZ2 c100
                obtain rfl : m = m2 := (nI_eq (by omega) (by omega)).mp hmm
                have ea : ix (nI a) = a := nI_clamp (by omega)
                have ea2 : ix (nI a2) = a2 := nI_clamp (by omega)
                have em : ix (nI m) = m := nI_clamp (by omega)
                refine rb_aload X (pc := 110) dX4_copy_110 rfl ?_
                refine rc_getR X (pc := 112) fX4_213 (rb_obS hq) rfl dX4_copy_112 ?_
                refine rb_iload_n X (pc := 115) dX4_copy_115 rfl rfl ?_
                refine rb_aload X (pc := 116) dX4_copy_116 rfl ?_
                refine rc_getR X (pc := 118) fX4_213 (rb_obS hq2) rfl dX4_copy_118 ?_
                refine rb_iload X (pc := 121) dX4_copy_121 rfl ?_
                refine rb_iload X (pc := 123) dX4_copy_123 rfl ?_
                refine rc_copyL X (pc := 125) mX4_227 (by decide) (Nat.le_of_ble_eq_true rfl) (rb_arS2 hq) (rb_arS2 hq2) ⟨by omega, by omega, by omega⟩ (by omega) (by omega) dX4_copy_125 ?_
                refine rb_iload X (pc := 128) dX4_copy_128 rfl ?_
                refine rb_iret (S := []) X (pc := 130) Y dX4_copy_130 ?_
                refine pc_g (CI_U hC hq2 _) rfl ?_ ?_
                · rw [rb_rowl_o (by omega)]
                · rw [r_copy, if_pos (by rw [c4, c11]; rfl), eq1, eq2, if_neg (fun z => z.elim c42 c50), if_neg (fun z => z (by first | exact c70 | simpa using c70)), if_pos (by rw [c88, c100]; rfl), ea, ea2, em, hw2, hv2]
              · (try simp only [sp_b0, Classical.not_not] at c100)
                rw [hv1] at c100
                refine rb_aload_n X (pc := 103) dX4_copy_103 rfl rfl ?_
                refine rb_ldc X (pc := 104) dX4_copy_104 kX4_56 ?_
                refine rc_callVi X (pc := 106) cvX4_finding mX4_57 rb_ob8 (qX4_finding (i := 0) (by decide) (by decide)) (by decide) rfl rfl (Nat.le_of_ble_eq_true rfl) dX4_copy_106 ?_
                refine rb_iret (S := []) X (pc := 109) Y dX4_copy_109 ?_
                exact pc_f hC (by rw [r_copy, if_pos (by rw [c4, c11]; rfl), eq1, eq2, if_neg (fun z => z.elim c42 c50), if_neg (fun z => z (by first | exact c70 | simpa using c70)), if_neg, ff_0]; simp only [Bool.and_eq_true]; intro z; first | exact c88 z.1 | exact c100 z.2)
          · refine rb_aload_n X (pc := 73) dX4_copy_73 rfl rfl ?_
            refine rb_ldc X (pc := 74) dX4_copy_74 kX4_128 ?_
            refine rc_callVi X (pc := 76) cvX4_finding mX4_57 rb_ob8 (qX4_finding (i := 2) (by decide) (by decide)) (by decide) rfl rfl (Nat.le_of_ble_eq_true rfl) dX4_copy_76 ?_
            refine rb_iret (S := []) X (pc := 79) Y dX4_copy_79 ?_
            exact pc_f hC (by rw [r_copy, if_pos (by rw [c4, c11]; rfl), eq1, eq2, if_neg (fun z => z.elim c42 c50), if_pos c70, ff_2])
        · (try simp only [sp_b0, Classical.not_not] at c50)
          rw [hv0] at c50
          refine rb_aload_n X (pc := 53) dX4_copy_53 rfl rfl ?_
          refine rb_ldc X (pc := 54) dX4_copy_54 kX4_212 ?_
          refine rc_callVi X (pc := 56) cvX4_finding mX4_57 rb_ob8 (qX4_finding (i := 5) (by decide) (by decide)) (by decide) rfl rfl (Nat.le_of_ble_eq_true rfl) dX4_copy_56 ?_
          refine rb_iret (S := []) X (pc := 59) Y dX4_copy_59 ?_
          exact pc_f hC (by rw [r_copy, if_pos (by rw [c4, c11]; rfl), eq1, eq2, if_pos (by first | exact Or.inl c42 | exact Or.inr c50), ff_5])
    · (try simp only [sp_b0, Classical.not_not] at c11)
      refine rb_aload_n X (pc := 14) dX4_copy_14 rfl rfl ?_
      refine rb_ldc X (pc := 15) dX4_copy_15 kX4_56 ?_
      refine rc_callVi X (pc := 17) cvX4_finding mX4_57 rb_ob8 (qX4_finding (i := 0) (by decide) (by decide)) (by decide) rfl rfl (Nat.le_of_ble_eq_true rfl) dX4_copy_17 ?_
      refine rb_iret (S := []) X (pc := 20) Y dX4_copy_20 ?_
      exact pc_f hC (by simp [r_copy, ff_0, *]; done)
theorem sp_lay_s {u : Nat → Int64} {T : rb_T} {i : Nat} : sp_lay u T (i + 1) = sp_lay1 u i (sp_lay u T i) := by unfold sp_lay; exact sp_fold_s
theorem sp_lay_0 {u : Nat → Int64} {T : rb_T} : sp_lay u T 0 = (T, 0) := by unfold sp_lay; rfl
set_option maxRecDepth 100000 in
set_option maxHeartbeats 1000000 in
theorem lpX4_lays_40 {Z : rb_Z} {G : rb_G} {σ : Sg} {h : rb_H} (hS : okS σ) (hC : CI σ (tw h 0 (sT σ))) {q z : Nat} {u : Nat → Int64} (hq : q < 4) (hz : z ≤ 40) (hz1 : h.1 (4 + q) 1 0 = nI z) (hu : h.2 (4 + q) 2 = u) {p : Int32 × Sg} (hp : p = (nI (sp_lay u (sT σ) (min z 8)).2, wT σ (sp_lay u (sT σ) (min z 8)).1)) (X : rb_CX Z G cX4_lays 7 RX4 1) (Y : rb_RT Z G (some .int) (PC (tw h 0 (sT σ)) (p))) : ∀ fu : Nat, ∀ (i : Nat), i ≤ z → i ≤ 8 → 9 ≤ i + fu → rb_WP Z G 7 40 [.ref (rb_ad G 8 0), .int (nI q), .ref (rb_ad G (4 + q) 0), .int (nI (sp_lay u (sT σ) i).2), .int (nI i), .null, .null] [] (tw h 0 (sp_lay u (sT σ) i).1) := by
  intro fu
  induction fu with
  | zero => intro i hi hi8 hf; omega
  | succ fu ih =>
    intro i hi hi8 hf
    refine rb_iload X (pc := 40) dX4_lays_40 rfl ?_
    refine rb_aload_n X (pc := 42) dX4_lays_42 rfl rfl ?_
    refine rc_getI X (pc := 43) fX4_208 (rb_obS hq) rfl (show (tw h 0 (sp_lay u (sT σ) i).1).1 (4 + q) 1 0 = nI z by rw [rb_st_ne (by omega)]; exact hz1) dX4_lays_43 ?_
    refine rb_icmp_ge X (pc := 46) (tgt := 103) dX4_lays_46 (by decide) (fun c46 => ?_) (fun c46 => ?_)
    · have hi2 := (sp_geI (n := z) rfl (by omega) (by omega)).mp c46
      obtain rfl : i = z := by omega
      have hmin : min i 8 = i := by omega
      refine rb_iload_n X (pc := 103) dX4_lays_103 rfl rfl ?_
      refine rb_iret (S := []) X (pc := 104) Y dX4_lays_104 ?_
      exact pc_T hC (by rw [hp, hmin])
    · have hi2 : i < z := Nat.lt_of_not_le (fun w => c46 ((sp_geI (n := z) rfl (by omega) (by omega)).mpr w))
      refine rb_iload X (pc := 49) dX4_lays_49 rfl ?_
      refine rb_bipush (v := 8) X (pc := 51) dX4_lays_51 (by decide) ?_
      refine rb_icmp_ge X (pc := 53) (tgt := 103) dX4_lays_53 (by decide) (fun c53 => ?_) (fun c53 => ?_)
      · have hi3 := (sp_geI (n := 8) rfl (by omega) (by omega)).mp c53
        obtain rfl : i = 8 := by omega
        have hmin : min z 8 = 8 := by omega
        refine rb_iload_n X (pc := 103) dX4_lays_103 rfl rfl ?_
        refine rb_iret (S := []) X (pc := 104) Y dX4_lays_104 ?_
        exact pc_T hC (by rw [hp, hmin])
      · have hi3 : i < 8 := Nat.lt_of_not_le (fun w => c53 ((sp_geI (n := 8) rfl (by omega) (by omega)).mpr w))
        refine rb_aload_n X (pc := 56) dX4_lays_56 rfl rfl ?_
        refine rc_getR X (pc := 57) fX4_213 (rb_obS hq) rfl dX4_lays_57 ?_
        refine rb_iload X (pc := 60) dX4_lays_60 rfl ?_
        refine rc_lald X (pc := 62) _ (rb_arS2 hq) hu rfl (by omega) dX4_lays_62 ?_
        refine rb_lstore X (pc := 63) dX4_lays_63 (by decide) rfl rfl ?_
        refine rb_lload X (pc := 65) dX4_lays_65 rfl ?_
        refine rb_lconst (v := 0) X (pc := 67) dX4_lays_67 (by decide) ?_
        refine rb_lcmp X (pc := 68) dX4_lays_68 ?_
        refine rb_if_lt X (pc := 69) (tgt := 97) dX4_lays_69 (by decide) (fun c69 => ?_) (fun c69 => ?_)
        · rw [lg_lt0] at c69
          have hno : ¬ (0 ≤ u i ∧ u i ≤ 9) := fun w => absurd w.1 (Int64.not_le.mpr c69)
          refine rb_iinc X (pc := 97) dX4_lays_97 rfl (sp_inc _) (by decide) rfl rfl ?_
          refine rb_goto X (pc := 100) (tgt := 40) dX4_lays_100 (by decide) ?_
          refine sp_drop 5 ?_
          first
          | exact sp_go (by rw [sp_lay_s, sp_lay1, if_neg hno]; rfl) (by rw [sp_lay_s, sp_lay1, if_neg hno]) (ih (i + 1) (by omega) (by omega) (by omega))
          | exact sp_go (by rw [sp_lay_s, sp_lay1, if_pos hyes]; rfl) (by rw [sp_lay_s, sp_lay1, if_pos hyes]) (ih (i + 1) (by omega) (by omega) (by omega))
        · rw [lg_lt0] at c69
          refine rb_lload X (pc := 72) dX4_lays_72 rfl ?_
          refine rb_ldc2 X (pc := 74) dX4_lays_74 kX4_233 ?_
          refine rb_lcmp X (pc := 77) dX4_lays_77 ?_
          refine rb_if_gt X (pc := 78) (tgt := 97) dX4_lays_78 (by decide) (fun c78 => ?_) (fun c78 => ?_)
          · rw [lg_gt0] at c78
            have hno : ¬ (0 ≤ u i ∧ u i ≤ 9) := fun w => absurd w.2 (Int64.not_le.mpr c78)
            refine rb_iinc X (pc := 97) dX4_lays_97 rfl (sp_inc _) (by decide) rfl rfl ?_
            refine rb_goto X (pc := 100) (tgt := 40) dX4_lays_100 (by decide) ?_
            refine sp_drop 5 ?_
            first
            | exact sp_go (by rw [sp_lay_s, sp_lay1, if_neg hno]; rfl) (by rw [sp_lay_s, sp_lay1, if_neg hno]) (ih (i + 1) (by omega) (by omega) (by omega))
            | exact sp_go (by rw [sp_lay_s, sp_lay1, if_pos hyes]; rfl) (by rw [sp_lay_s, sp_lay1, if_pos hyes]) (ih (i + 1) (by omega) (by omega) (by omega))
          · rw [lg_gt0] at c78
            have hyes : 0 ≤ u i ∧ u i ≤ 9 := ⟨Int64.not_lt.mp c69, Int64.not_lt.mp c78⟩
            refine rb_aload_n X (pc := 81) dX4_lays_81 rfl rfl ?_
            refine rc_getO (q := 0) X (pc := 82) fX4_10 rb_ob8 rfl dX4_lays_82 ?_
            refine rc_getR X (pc := 85) fX4_66 (rb_obT (t := 0) (by decide)) rfl dX4_lays_85 ?_
            refine rb_iload X (pc := 88) dX4_lays_88 rfl ?_
            refine rb_lload X (pc := 90) dX4_lays_90 rfl ?_
            refine rb_l2i X (pc := 92) dX4_lays_92 ?_
            refine rc_iast X (pc := 93) _ (rb_arT2 (t := 0) (by decide)) (tw_u (by decide) (by decide) (by decide)) rfl (by omega) dX4_lays_93 ?_
            refine rb_iinc X (pc := 94) dX4_lays_94 rfl (sp_inc _) (by decide) rfl rfl ?_
            refine rb_iinc X (pc := 97) dX4_lays_97 rfl (sp_inc _) (by decide) rfl rfl ?_
            refine rb_goto X (pc := 100) (tgt := 40) dX4_lays_100 (by decide) ?_
            refine sp_drop 5 ?_
            first
            | exact sp_go (by rw [sp_lay_s, sp_lay1, if_neg hno]; rfl) (by rw [sp_lay_s, sp_lay1, if_neg hno]) (ih (i + 1) (by omega) (by omega) (by omega))
            | exact sp_go (by rw [sp_lay_s, sp_lay1, if_pos hyes]; rfl) (by rw [sp_lay_s, sp_lay1, if_pos hyes]) (ih (i + 1) (by omega) (by omega) (by omega))
set_option maxRecDepth 100000 in
set_option maxHeartbeats 1000000 in
theorem qX4_lays {G : rb_G} {σ : Sg} {h : rb_H} (hS : okS σ) (hC : CI σ h)  (s : Int32) : rb_M G 1 yX4_lays cX4_lays 7 (some .int) [.ref (rb_ad G 8 0), .int s] (h) (PC h (r_lays σ s)) := by
  refine rb_meth (L := [.ref (rb_ad G 8 0), .int s, .null, .null, .null, .null, .null]) (by decide) (Nat.le_of_ble_eq_true rfl) rfl (fun Z X Y => ?_)
  have X : rb_CX Z G cX4_lays 7 RX4 1 := X
  obtain ⟨h, rfl⟩ : ∃ h0, h = tw h0 0 (sT σ) := ⟨h, (rb_st_self hC.1).symm⟩
  have hok := hS.1
  have hn4 := hok.1
  have hn10 := hok.2.1
  refine rb_iload_n X (pc := 0) dX4_lays_0 rfl rfl ?_
  refine rc_callSi X (pc := 1) cvX4_isSheet mX4_201 (qX4_isSheet _) (by decide) rfl rfl (Nat.le_of_ble_eq_true rfl) dX4_lays_1 ?_
  refine rb_if_ne X (pc := 4) (tgt := 14) dX4_lays_4 (by decide) (fun c4 => ?_) (fun c4 => ?_)
  · (try simp only [sp_b0, Classical.not_not] at c4)
    obtain ⟨q, hq, rfl⟩ := iS_of c4
    have eq1 : ix (nI q) = q := nI_clamp (by omega)
    have hZ := hS.2.2.2.2 q hq
    obtain ⟨hw0, hw1, hw2⟩ := hC.2.2.2.2.2.2 q hq
    refine rb_aload_n X (pc := 14) dX4_lays_14 rfl rfl ?_
    refine rc_getR X (pc := 15) fX4_35 rb_ob8 rfl dX4_lays_15 ?_
    refine rb_iload_n X (pc := 18) dX4_lays_18 rfl rfl ?_
    refine rb_aald X (pc := 19) _ rfl (by omega) dX4_lays_19 ?_
    refine rb_astore_n X (pc := 20) dX4_lays_20 rfl (by decide) rfl rfl ?_
    refine rb_aload_n X (pc := 21) dX4_lays_21 rfl rfl ?_
    refine rc_callVi X (pc := 22) cvX1_isMissing mX4_209 (rb_obS hq) (qX1_isMissing hq) (by decide) rfl rfl (Nat.le_of_ble_eq_true rfl) dX4_lays_22 ?_
    refine rb_if_eq X (pc := 25) (tgt := 35) dX4_lays_25 (by decide) (fun c25 => ?_) (fun c25 => ?_)
    · (try simp only [sp_b0, Classical.not_not] at c25)
      rw [hw0] at c25
      refine rb_iconst (v := 0) X (pc := 35) dX4_lays_35 (by decide) ?_
      refine rb_istore_n X (pc := 36) dX4_lays_36 rfl (by decide) rfl rfl ?_
      refine rb_iconst (v := 0) X (pc := 37) dX4_lays_37 (by decide) ?_
      refine rb_istore X (pc := 38) dX4_lays_38 (by decide) rfl rfl ?_
      exact sp_go (by rw [sp_lay_0]; rfl) (by rw [sp_lay_0]) (lpX4_lays_40 hS hC hq hZ (by rw [← hw1, rb_st_ne (by omega)]) hw2 (by rw [r_lays, if_pos c4, eq1, if_neg c25]) X Y 9 0 (by omega) (by omega) (by omega))
    · (try simp only [sp_b0, Classical.not_not] at c25)
      rw [hw0] at c25
      refine rb_aload_n X (pc := 28) dX4_lays_28 rfl rfl ?_
      refine rb_ldc X (pc := 29) dX4_lays_29 kX4_212 ?_
      refine rc_callVi X (pc := 31) cvX4_finding mX4_57 rb_ob8 (qX4_finding (i := 5) (by decide) (by decide)) (by decide) rfl rfl (Nat.le_of_ble_eq_true rfl) dX4_lays_31 ?_
      refine rb_iret (S := []) X (pc := 34) Y dX4_lays_34 ?_
      exact pc_f hC (by simp [r_lays, c4, eq1, c25, ff_5])
  · (try simp only [sp_b0, Classical.not_not] at c4)
    refine rb_aload_n X (pc := 7) dX4_lays_7 rfl rfl ?_
    refine rb_ldc X (pc := 8) dX4_lays_8 kX4_56 ?_
    refine rc_callVi X (pc := 10) cvX4_finding mX4_57 rb_ob8 (qX4_finding (i := 0) (by decide) (by decide)) (by decide) rfl rfl (Nat.le_of_ble_eq_true rfl) dX4_lays_10 ?_
    refine rb_iret (S := []) X (pc := 13) Y dX4_lays_13 ?_
    first
    | exact pc_f hC (by simp [r_lays, ff_0, *]; done)
    | exact pc_Af hC (by simp [r_lays, ff_0, *]; done)
