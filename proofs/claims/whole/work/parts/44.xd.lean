section RB4
variable {Z : rb_Z} {G : rb_G} {cc : ByteArray} {nL : Nat} {own : String} {k pc : Nat} {L S : List Value} {h : rb_H}
theorem rb_ZA {A : Nat → Prop} {C n d : String} {v : Value} {s : State} (hA2 : ∀ a, a < s.heap.size → A a → rb_AD G a) (hZ : va_Z C n d v (rb_AD G) s s.heap) : va_Z C n d v A s s.heap := by
  obtain ⟨cf, kf, fi, f, a, cell, h1, h2, h3, h4, h5, h6, h7, h8⟩ := hZ
  exact ⟨cf, kf, fi, f, a, cell, h1, h2, h3, h4, h5, h6, h7, fun z => h8 (hA2 a (Array.getElem?_eq_some_iff.mp h5).1 z)⟩
theorem rb_TA {A : Nat → Prop} {ty : FieldType} {t N : Nat} {f : Nat → Value} {s : State} (hA2 : ∀ a, a < s.heap.size → A a → rb_AD G a) (hT : va_T ty t N f (rb_AD G) s s.heap) : va_T ty t N f A s s.heap := by
  obtain ⟨cell, h1, h2, h3, h4, h5, h6, h7⟩ := hT
  exact ⟨cell, h1, h2, h3, h4, h5, h6, fun z => h7 (hA2 t (Array.getElem?_eq_some_iff.mp h1).1 z)⟩
theorem rc_abv (X : rb_CX Z G cc nL own k) {idx : Nat} (lk : Cond.fieldLink own idx "RumourBeds$Kinds" "ABOVE" "[I" ∈ lw_tbl) (d : decode cc pc = .ok (.getstatic idx, 3)) (kk : rb_WP Z G nL (pc + 3) L (.ref G.2.2.2.2.2 :: S) h) : rb_WP Z G nL pc L S h := by
  obtain ⟨p, l, e, R, s, m, args, below, meth, c, A, cells, slots, Q⟩ := Z
  obtain ⟨hx, hb, hml, hown, hsw, hA, hA2, hf, hlo, hce, hso⟩ := X
  intro H locs ls hP hS hl
  exact va_gets hx hb (rb_ZA hA2 hsw.2.2.2.2.2.1) hS hown (hsw.1.use lk rfl _) (fun _ h => h) d (kk H locs ls hP hS hl)
theorem rc_abvld (X : rb_CX Z G cc nL own k) {i : Int32} (q : Nat) (hi : i = nI q) (hq : q < 6) (d : decode cc pc = .ok (.iaload, 1)) (kk : rb_WP Z G nL (pc + 1) L (.int (rb_abv.getD q 0) :: S) h) : rb_WP Z G nL pc L (.int i :: .ref G.2.2.2.2.2 :: S) h := by
  obtain ⟨p, l, e, R, s, m, args, below, meth, c, A, cells, slots, Q⟩ := Z
  obtain ⟨hx, hb, hml, hown, hsw, hA, hA2, hf, hlo, hce, hso⟩ := X
  intro H locs ls hP hS hl
  subst hi
  exact va_ti hx hb (rb_TA hA2 hsw.2.2.2.2.2.2.1) hS (vp_in_nI hq (by decide)) (by rw [nI_clamp (by omega)]) d (kk H locs ls hP hS hl)
end RB4
theorem abvlk : Cond.fieldLink RX0 9 "RumourBeds$Kinds" "ABOVE" "[I" ∈ lw_tbl := List.mem_of_getElem? (i := 323) (by decide +kernel)
def uF : Nat → Int32 → Int32 → Bool
  | 0, _, _ => false
  | f + 1, x, t => if 0 ≤ x ∧ x < 6 then (if x = t then true else uF f (rb_abv.getD x.toNatClampNeg 0) t) else false
theorem uF_und : ∀ a, a < 6 → ∀ t, t < 6 → uF 6 (nI a) (nI t) = sp_und (nI a) (nI t) := by decide +kernel
set_option maxRecDepth 100000 in
set_option maxHeartbeats 1000000 in
theorem lpX0_isUnder_4 {Z : rb_Z} {G : rb_G} {h : rb_H} {k0 tp : Int32} {b : Bool} (X : rb_CX Z G cX0_isUnder 4 RX0 0) (Y : rb_RT Z G (some .boolean) (rb_F (some (.int (if b = true then 1 else 0))) (h))) : ∀ fu : Nat, ∀ (i : Nat) (x : Int32), i ≤ 6 → 7 ≤ i + fu → uF (6 - i) x tp = b → rb_WP Z G 4 4 [.int k0, .int tp, .int x, .int (nI i)] [] h := by
  intro fu
  induction fu with
  | zero => intro i x hi hf hb; omega
  | succ fu ih =>
    intro i x hi hf hb
    refine rb_iload_n X (pc := 4) dX0_isUnder_4 rfl rfl ?_
    refine rb_bipush (v := 6) X (pc := 5) dX0_isUnder_5 (by decide) ?_
    refine rb_icmp_ge X (pc := 7) (tgt := 39) dX0_isUnder_7 (by decide) (fun c7 => ?_) (fun c7 => ?_)
    · have hi2 := (sp_geI (n := 6) rfl (by omega) (by omega)).mp c7
      obtain rfl : i = 6 := by omega
      have hb0 : b = false := hb.symm
      refine rb_iconst (v := 0) X (pc := 39) dX0_isUnder_39 (by decide) ?_
      refine rb_zret (S := []) X (pc := 40) Y dX0_isUnder_40 rfl ?_
      exact ⟨by rw [hb0]; rfl, rfl⟩
    · have hi2 : i < 6 := Nat.lt_of_not_le (fun z => c7 ((sp_geI (n := 6) rfl (by omega) (by omega)).mpr z))
      obtain ⟨f, hf2⟩ : ∃ f, 6 - i = f + 1 := ⟨5 - i, by omega⟩
      rw [hf2, uF] at hb
      refine rb_iload_n X (pc := 10) dX0_isUnder_10 rfl rfl ?_
      refine rb_if_lt X (pc := 11) (tgt := 39) dX0_isUnder_11 (by decide) (fun c11 => ?_) (fun c11 => ?_)
      · have hb0 : b = false := by rw [if_neg (fun z => absurd z.1 (Int32.not_le.mpr c11))] at hb; exact hb.symm
        refine rb_iconst (v := 0) X (pc := 39) dX0_isUnder_39 (by decide) ?_
        refine rb_zret (S := []) X (pc := 40) Y dX0_isUnder_40 rfl ?_
        exact ⟨by rw [hb0]; rfl, rfl⟩
      · refine rb_iload_n X (pc := 14) dX0_isUnder_14 rfl rfl ?_
        refine rb_bipush (v := 6) X (pc := 15) dX0_isUnder_15 (by decide) ?_
        refine rb_icmp_ge X (pc := 17) (tgt := 39) dX0_isUnder_17 (by decide) (fun c17 => ?_) (fun c17 => ?_)
        · have hb0 : b = false := by rw [if_neg (fun z => absurd z.2 (Int32.not_lt.mpr c17))] at hb; exact hb.symm
          refine rb_iconst (v := 0) X (pc := 39) dX0_isUnder_39 (by decide) ?_
          refine rb_zret (S := []) X (pc := 40) Y dX0_isUnder_40 rfl ?_
          exact ⟨by rw [hb0]; rfl, rfl⟩
        · have hx := sp_rng (n := 6) (by decide) (Int32.not_lt.mp c11) (Int32.not_le.mp c17)
          obtain ⟨a, ha, rfl⟩ := hx
          rw [if_pos ⟨Int32.not_lt.mp c11, Int32.not_le.mp c17⟩, nI_clamp (by omega)] at hb
          refine rb_iload_n X (pc := 20) dX0_isUnder_20 rfl rfl ?_
          refine rb_iload_n X (pc := 21) dX0_isUnder_21 rfl rfl ?_
          refine rb_icmp_ne X (pc := 22) (tgt := 27) dX0_isUnder_22 (by decide) (fun c22 => ?_) (fun c22 => ?_)
          · rw [if_neg c22] at hb
            refine rc_abv X (pc := 27) abvlk dX0_isUnder_27 ?_
            refine rb_iload_n X (pc := 30) dX0_isUnder_30 rfl rfl ?_
            refine rc_abvld X (pc := 31) _ rfl (by omega) dX0_isUnder_31 ?_
            refine rb_istore_n X (pc := 32) dX0_isUnder_32 rfl (by decide) rfl rfl ?_
            refine rb_iinc X (pc := 33) dX0_isUnder_33 rfl (sp_inc _) (by decide) rfl rfl ?_
            refine rb_goto X (pc := 36) (tgt := 4) dX0_isUnder_36 (by decide) ?_
            exact ih (i + 1) _ (by omega) (by omega) (by rw [show 6 - (i + 1) = f by omega]; exact hb)
          · have hb1 : b = true := by rw [if_pos (by first | exact c22 | simpa using c22)] at hb; exact hb.symm
            refine rb_iconst (v := 1) X (pc := 25) dX0_isUnder_25 (by decide) ?_
            refine rb_zret (S := []) X (pc := 26) Y dX0_isUnder_26 rfl ?_
            exact ⟨by rw [hb1]; rfl, rfl⟩
set_option maxRecDepth 100000 in
set_option maxHeartbeats 1000000 in
theorem qX0_isUnder {G : rb_G} {h : rb_H} (a t : Nat) (ha : a < 6) (ht : t < 6) : rb_M G 0 yX0_isUnder cX0_isUnder 4 (some .boolean) [.int (nI a), .int (nI t)] (h) (rb_F (some (.int (if sp_und (nI a) (nI t) = true then 1 else 0))) (h)) := by
  refine rb_meth (L := [.int (nI a), .int (nI t), .null, .null]) (by decide) (Nat.le_of_ble_eq_true rfl) rfl (fun Z X Y => ?_)
  have X : rb_CX Z G cX0_isUnder 4 RX0 0 := X
  refine rb_iload_n X (pc := 0) dX0_isUnder_0 rfl rfl ?_
  refine rb_istore_n X (pc := 1) dX0_isUnder_1 rfl (by decide) rfl rfl ?_
  refine rb_iconst (v := 0) X (pc := 2) dX0_isUnder_2 (by decide) ?_
  refine rb_istore_n X (pc := 3) dX0_isUnder_3 rfl (by decide) rfl rfl ?_
  exact sp_go rfl rfl (lpX0_isUnder_4 X Y 7 0 (nI a) (by omega) (by omega) (uF_und a ha t ht))
set_option maxRecDepth 100000 in
set_option maxHeartbeats 1000000 in
theorem qX4_as {G : rb_G} {σ : Sg} {h : rb_H} (hS : okS σ) (hC : CI σ h)  (r0 k : Int32) : rb_M G 1 yX4_as cX4_as 3 (some .int) [.ref (rb_ad G 8 0), .int r0, .int k] (h) (PC h (r_as σ r0 k)) := by
  refine rb_meth (L := [.ref (rb_ad G 8 0), .int r0, .int k]) (by decide) (Nat.le_of_ble_eq_true rfl) rfl (fun Z X Y => ?_)
  have X : rb_CX Z G cX4_as 3 RX4 1 := X
  obtain ⟨h, rfl⟩ : ∃ h0, h = tw h0 0 (sT σ) := ⟨h, (rb_st_self hC.1).symm⟩
  have hok := hS.1
  have hn4 := hok.1
  have hn10 := hok.2.1
  refine rb_aload_n X (pc := 0) dX4_as_0 rfl rfl ?_
  refine rb_iload_n X (pc := 1) dX4_as_1 rfl rfl ?_
  refine rc_callVi X (pc := 2) cvX4_isRumour mX4_93 rb_ob8 (qX4_isRumour _) (by decide) rfl rfl (Nat.le_of_ble_eq_true rfl) dX4_as_2 ?_
  refine rb_if_eq X (pc := 5) (tgt := 15) dX4_as_5 (by decide) (fun c5 => ?_) (fun c5 => ?_)
  · (try simp only [sp_b0, Classical.not_not] at c5)
    refine rb_aload_n X (pc := 15) dX4_as_15 rfl rfl ?_
    refine rb_ldc X (pc := 16) dX4_as_16 kX4_56 ?_
    refine rc_callVi X (pc := 18) cvX4_finding mX4_57 rb_ob8 (qX4_finding (i := 0) (by decide) (by decide)) (by decide) rfl rfl (Nat.le_of_ble_eq_true rfl) dX4_as_18 ?_
    refine rb_iret (S := []) X (pc := 21) Y dX4_as_21 ?_
    first
    | exact pc_f hC (by simp [r_as, ff_0, *]; done)
    | exact pc_Af hC (by simp [r_as, ff_0, *]; done)
  · (try simp only [sp_b0, Classical.not_not] at c5)
    refine rb_iload_n X (pc := 8) dX4_as_8 rfl rfl ?_
    refine rc_callSi X (pc := 9) cvX4_isKind mX4_78 (qX4_isKind _) (by decide) rfl rfl (Nat.le_of_ble_eq_true rfl) dX4_as_9 ?_
    refine rb_if_ne X (pc := 12) (tgt := 22) dX4_as_12 (by decide) (fun c12 => ?_) (fun c12 => ?_)
    · (try simp only [sp_b0, Classical.not_not] at c12)
      obtain ⟨r, hr, rfl⟩ := iR_of hok c5
      obtain ⟨kk, hk1, rfl⟩ := iK_of c12
      have er : ix (nI r) = r := nI_clamp (by omega)
      obtain ⟨ak, hak1, hak⟩ := (hok.2.2.1 r (by omega)).1
      refine rb_aload_n X (pc := 22) dX4_as_22 rfl rfl ?_
      refine rc_getO (q := 0) X (pc := 23) fX4_10 rb_ob8 rfl dX4_as_23 ?_
      refine rc_getR X (pc := 26) fX4_96 (rb_obT (t := 0) (by decide)) rfl dX4_as_26 ?_
      refine rb_iload_n X (pc := 29) dX4_as_29 rfl rfl ?_
      refine rc_iald X (pc := 30) _ (rb_arT5 (t := 0) (by decide)) (rb_tj5 (t := 0)) rfl (by omega) dX4_as_30 ?_
      rw [hak]
      refine rb_iload_n X (pc := 31) dX4_as_31 rfl rfl ?_
      refine rc_callSi X (pc := 32) cvX0_isUnder mX4_123 (qX0_isUnder ak kk hak1 hk1) (by decide) rfl rfl (Nat.le_of_ble_eq_true rfl) dX4_as_32 ?_
      refine rb_if_ne X (pc := 35) (tgt := 45) dX4_as_35 (by decide) (fun c35 => ?_) (fun c35 => ?_)
      · (try simp only [sp_b0, Classical.not_not] at c35)
        rw [← hak] at c35
        refine rb_aload_n X (pc := 45) dX4_as_45 rfl rfl ?_
        refine rc_getO (q := 0) X (pc := 46) fX4_10 rb_ob8 rfl dX4_as_46 ?_
        refine rc_getR X (pc := 49) fX4_102 (rb_obT (t := 0) (by decide)) rfl dX4_as_49 ?_
        refine rb_iload_n X (pc := 52) dX4_as_52 rfl rfl ?_
        refine rc_iald X (pc := 53) _ (rb_arT7 (t := 0) (by decide)) (rb_tj7 (t := 0)) rfl (by omega) dX4_as_53 ?_
        refine rb_iret (S := []) X (pc := 54) Y dX4_as_54 ?_
        exact pc_0 hC (by simp [r_as, c5, c12, er, c35])
      · (try simp only [sp_b0, Classical.not_not] at c35)
        rw [← hak] at c35
        refine rb_aload_n X (pc := 38) dX4_as_38 rfl rfl ?_
        refine rb_ldc X (pc := 39) dX4_as_39 kX4_128 ?_
        refine rc_callVi X (pc := 41) cvX4_finding mX4_57 rb_ob8 (qX4_finding (i := 2) (by decide) (by decide)) (by decide) rfl rfl (Nat.le_of_ble_eq_true rfl) dX4_as_41 ?_
        refine rb_iret (S := []) X (pc := 44) Y dX4_as_44 ?_
        exact pc_f hC (by simp [r_as, c5, c12, er, c35, ff_2])
    · (try simp only [sp_b0, Classical.not_not] at c12)
      refine rb_aload_n X (pc := 15) dX4_as_15 rfl rfl ?_
      refine rb_ldc X (pc := 16) dX4_as_16 kX4_56 ?_
      refine rc_callVi X (pc := 18) cvX4_finding mX4_57 rb_ob8 (qX4_finding (i := 0) (by decide) (by decide)) (by decide) rfl rfl (Nat.le_of_ble_eq_true rfl) dX4_as_18 ?_
      refine rb_iret (S := []) X (pc := 21) Y dX4_as_21 ?_
      first
      | exact pc_f hC (by simp [r_as, ff_0, *]; done)
      | exact pc_Af hC (by simp [r_as, ff_0, *]; done)
theorem k_arg_s {f : Nat → Int32} {q : Nat} : k_arg f (q + 1) = if (k_arg f q).2 < f q then (nI q, f q) else k_arg f q := by unfold k_arg; exact sp_fold_s
theorem k_arg_0 {f : Nat → Int32} : k_arg f 0 = (0, -1) := by unfold k_arg; rfl
set_option maxRecDepth 100000 in
set_option maxHeartbeats 1000000 in
theorem lpX4_best_23 {Z : rb_Z} {G : rb_G} {σ : Sg} {h : rb_H} (hS : okS σ) (hC : CI σ (tw h 0 (sT σ))) {n : Nat} (hn : n ≤ 20) (cN : iN (nI n) 20 = true) (X : rb_CX Z G cX4_best 6 RX4 6) (Y : rb_RT Z G (some .int) (PC (tw h 0 (sT σ)) (r_best σ (nI n)))) : ∀ fu : Nat, ∀ (i : Nat) (M : rb_T), i ≤ 16 → 17 ≤ i + fu → rb_WP Z G 6 23 [.ref (rb_ad G 8 0), .int (nI n), .int (k_arg (fun e => sp_sum (sp_days (sp_bt (sT σ) (nI e)) n 1) 8) i).1, .int (k_arg (fun e => sp_sum (sp_days (sp_bt (sT σ) (nI e)) n 1) 8) i).2, .int (nI i), .null] [] (rb_st (tw h 0 (sT σ)) 1 M) := by
  intro fu
  induction fu with
  | zero => intro i M hi hf; omega
  | succ fu ih =>
    intro i M hi hf
    have hok := hS.1
    have hn10 := hok.2.1
    refine rb_iload X (pc := 23) dX4_best_23 rfl ?_
    refine rb_bipush (v := 16) X (pc := 25) dX4_best_25 (by decide) ?_
    refine rb_icmp_ge X (pc := 27) (tgt := 89) dX4_best_27 (by decide) (fun c27 => ?_) (fun c27 => ?_)
    · have hi2 := (sp_geI (n := 16) rfl (by omega) (by omega)).mp c27
      obtain rfl : i = 16 := by omega
      refine rb_iload_n X (pc := 89) dX4_best_89 rfl rfl ?_
      refine rb_iret (S := []) X (pc := 90) Y dX4_best_90 ?_
      exact pc_A hC (by have en : ix (nI n) = n := nI_clamp (by omega); simp [r_best, cN, en])
    · have hi2 : i < 16 := Nat.lt_of_not_le (fun z => c27 ((sp_geI (n := 16) rfl (by omega) (by omega)).mpr z))
      refine rb_aload_n X (pc := 30) dX4_best_30 rfl rfl ?_
      refine rc_getO (q := 1) X (pc := 31) fX4_16 rb_ob8 rfl dX4_best_31 ?_
      refine rb_aload_n X (pc := 34) dX4_best_34 rfl rfl ?_
      refine rc_getO (q := 0) X (pc := 35) fX4_10 rb_ob8 rfl dX4_best_35 ?_
      refine rc_callVv X (pc := 38) cvX3_becomes mX4_177 (rb_obT (t := 1) (by decide)) (qX3_becomes (t := 1) (t2 := 0) (by decide) (by decide) (by decide) (M2 := wl (sT σ)) rfl) (by decide) rfl rfl (Nat.le_of_ble_eq_true rfl) dX4_best_38 ?_
      rw [rb_st_st]
      refine rb_aload_n X (pc := 41) dX4_best_41 rfl rfl ?_
      refine rc_getO (q := 1) X (pc := 42) fX4_16 rb_ob8 rfl dX4_best_42 ?_
      refine rb_iload X (pc := 45) dX4_best_45 rfl ?_
      refine rc_callVi X (pc := 47) cvX3_becomeTrue mX4_146 (rb_obT (t := 1) (by decide)) (qX3_becomeTrue (t := 1) (by decide) hok _) (by decide) rfl rfl (Nat.le_of_ble_eq_true rfl) dX4_best_47 ?_
      refine rb_pop X (pc := 50) dX4_best_50 rfl ?_
      refine rb_aload_n X (pc := 51) dX4_best_51 rfl rfl ?_
      refine rc_getO (q := 1) X (pc := 52) fX4_16 rb_ob8 rfl dX4_best_52 ?_
      refine rb_iload_n X (pc := 55) dX4_best_55 rfl rfl ?_
      refine rc_callVv X (pc := 56) cvX3_passDays mX4_156 (rb_obT (t := 1) (by decide)) (qX3_passDays (t := 1) (by decide) (sp_bt_ok hok) (by omega)) (by decide) rfl rfl (Nat.le_of_ble_eq_true rfl) dX4_best_56 ?_
      refine rb_aload_n X (pc := 59) dX4_best_59 rfl rfl ?_
      refine rc_getO (q := 1) X (pc := 60) fX4_16 rb_ob8 rfl dX4_best_60 ?_
      refine rc_getR X (pc := 63) fX4_63 (rb_obT (t := 1) (by decide)) rfl dX4_best_63 ?_
      refine rc_callSi X (pc := 66) cvX4_sumOf mX4_167 (qX4_sumOf (rb_arT1 (t := 1) (by decide)) (rb_tj1 (t := 1)) (by decide)) (by decide) rfl rfl (Nat.le_of_ble_eq_true rfl) dX4_best_66 ?_
      refine rb_istore X (pc := 69) dX4_best_69 (by decide) rfl rfl ?_
      refine rb_iload X (pc := 71) dX4_best_71 rfl ?_
      refine rb_iload_n X (pc := 73) dX4_best_73 rfl rfl ?_
      refine rb_icmp_le X (pc := 74) (tgt := 83) dX4_best_74 (by decide) (fun c74 => ?_) (fun c74 => ?_)
      · refine rb_iinc X (pc := 83) dX4_best_83 rfl (sp_inc _) (by decide) rfl rfl ?_
        refine rb_goto X (pc := 86) (tgt := 23) dX4_best_86 (by decide) ?_
        refine sp_drop 5 ?_
        first
        | exact sp_go (by rw [k_arg_s, if_neg (Int32.not_lt.mpr c74)]; rfl) rfl (ih (i + 1) _ (by omega) (by omega))
        | exact sp_go (by rw [k_arg_s, if_pos (Int32.not_le.mp c74)]; rfl) rfl (ih (i + 1) _ (by omega) (by omega))
      · refine rb_iload X (pc := 77) dX4_best_77 rfl ?_
        refine rb_istore_n X (pc := 79) dX4_best_79 rfl (by decide) rfl rfl ?_
        refine rb_iload X (pc := 80) dX4_best_80 rfl ?_
        refine rb_istore_n X (pc := 82) dX4_best_82 rfl (by decide) rfl rfl ?_
        refine rb_iinc X (pc := 83) dX4_best_83 rfl (sp_inc _) (by decide) rfl rfl ?_
        refine rb_goto X (pc := 86) (tgt := 23) dX4_best_86 (by decide) ?_
        refine sp_drop 5 ?_
        first
        | exact sp_go (by rw [k_arg_s, if_neg (Int32.not_lt.mpr c74)]; rfl) rfl (ih (i + 1) _ (by omega) (by omega))
        | exact sp_go (by rw [k_arg_s, if_pos (Int32.not_le.mp c74)]; rfl) rfl (ih (i + 1) _ (by omega) (by omega))
set_option maxRecDepth 100000 in
set_option maxHeartbeats 1000000 in
theorem qX4_best {G : rb_G} {σ : Sg} {h : rb_H} (hS : okS σ) (hC : CI σ h)  (n0 : Int32) : rb_M G 6 yX4_best cX4_best 6 (some .int) [.ref (rb_ad G 8 0), .int n0] (h) (PC h (r_best σ n0)) := by
  refine rb_meth (L := [.ref (rb_ad G 8 0), .int n0, .null, .null, .null, .null]) (by decide) (Nat.le_of_ble_eq_true rfl) rfl (fun Z X Y => ?_)
  have X : rb_CX Z G cX4_best 6 RX4 6 := X
  obtain ⟨h, rfl⟩ : ∃ h0, h = tw h0 0 (sT σ) := ⟨h, (rb_st_self hC.1).symm⟩
  have hok := hS.1
  have hn4 := hok.1
  have hn10 := hok.2.1
  refine rb_iload_n X (pc := 0) dX4_best_0 rfl rfl ?_
  refine rb_bipush (v := 20) X (pc := 1) dX4_best_1 (by decide) ?_
  refine rc_callSi X (pc := 3) cvX4_isWithin mX4_52 (qX4_isWithin _ _) (by decide) rfl rfl (Nat.le_of_ble_eq_true rfl) dX4_best_3 ?_
  refine rb_if_ne X (pc := 6) (tgt := 16) dX4_best_6 (by decide) (fun c6 => ?_) (fun c6 => ?_)
  · (try simp only [sp_b0, Classical.not_not] at c6)
    obtain ⟨n, hn1, rfl⟩ := iN_of (n := 20) (by decide) c6
    refine rb_iconst (v := 0) X (pc := 16) dX4_best_16 (by decide) ?_
    refine rb_istore_n X (pc := 17) dX4_best_17 rfl (by decide) rfl rfl ?_
    refine rb_iconst (v := (-1)) X (pc := 18) dX4_best_18 (by decide) ?_
    refine rb_istore_n X (pc := 19) dX4_best_19 rfl (by decide) rfl rfl ?_
    refine rb_iconst (v := 0) X (pc := 20) dX4_best_20 (by decide) ?_
    refine rb_istore X (pc := 21) dX4_best_21 (by decide) rfl rfl ?_
    exact sp_go (by rw [k_arg_0]; rfl) (rb_st_self rfl).symm (lpX4_best_23 hS hC hn1 c6 X Y 17 0 _ (by omega) (by omega))
  · (try simp only [sp_b0, Classical.not_not] at c6)
    refine rb_aload_n X (pc := 9) dX4_best_9 rfl rfl ?_
    refine rb_ldc X (pc := 10) dX4_best_10 kX4_56 ?_
    refine rc_callVi X (pc := 12) cvX4_finding mX4_57 rb_ob8 (qX4_finding (i := 0) (by decide) (by decide)) (by decide) rfl rfl (Nat.le_of_ble_eq_true rfl) dX4_best_12 ?_
    refine rb_iret (S := []) X (pc := 15) Y dX4_best_15 ?_
    first
    | exact pc_f hC (by simp [r_best, ff_0, *]; done)
    | exact pc_Af hC (by simp [r_best, ff_0, *]; done)
set_option maxRecDepth 100000 in
set_option maxHeartbeats 1000000 in
theorem lpX4_leanFor_31 {Z : rb_Z} {G : rb_G} {σ : Sg} {h : rb_H} (hS : okS σ) (hC : CI σ (tw h 0 (sT σ))) {n q : Nat} (hn : n ≤ 20) (hq : q < 8) (cN : iN (nI n) 20 = true) (cH : iH (nI q) = true) (X : rb_CX Z G cX4_leanFor 6 RX4 6) (Y : rb_RT Z G (some .int) (PC (tw h 0 (sT σ)) (r_leanFor σ (nI q) (nI n)))) : ∀ fu : Nat, ∀ (i : Nat) (M : rb_T), i ≤ 10 → 11 ≤ i + fu → rb_WP Z G 6 31 [.ref (rb_ad G 8 0), .int (nI q), .int (nI n), .int (k_arg (fun v => sp_days (u2 (sT σ) 2 q (nI v)) n 1 q) i).1, .int (k_arg (fun v => sp_days (u2 (sT σ) 2 q (nI v)) n 1 q) i).2, .int (nI i)] [] (rb_st (tw h 0 (sT σ)) 1 M) := by
  intro fu
  induction fu with
  | zero => intro i M hi hf; omega
  | succ fu ih =>
    intro i M hi hf
    have hok := hS.1
    have hn10 := hok.2.1
    refine rb_iload X (pc := 31) dX4_leanFor_31 rfl ?_
    refine rb_bipush (v := 9) X (pc := 33) dX4_leanFor_33 (by decide) ?_
    refine rb_icmp_gt X (pc := 35) (tgt := 102) dX4_leanFor_35 (by decide) (fun c35 => ?_) (fun c35 => ?_)
    · have hi2 : 10 ≤ i := by
        have z := Int32.not_le.mpr c35
        rcases Nat.lt_or_ge i 10 with w | w
        · exact absurd ((nI_leI (b := 9) (by omega) (by omega)).mpr (by omega)) z
        · exact w
      obtain rfl : i = 10 := by omega
      refine rb_iload_n X (pc := 102) dX4_leanFor_102 rfl rfl ?_
      refine rb_iret (S := []) X (pc := 103) Y dX4_leanFor_103 ?_
      exact pc_A hC (by have en : ix (nI n) = n := nI_clamp (by omega); have eq1 : ix (nI q) = q := nI_clamp (by omega); simp [r_leanFor, cN, cH, en, eq1])
    · have hi2 : i ≤ 9 := (nI_leI (b := 9) (by omega) (by omega)).mp (Int32.not_lt.mp c35)
      refine rb_aload_n X (pc := 38) dX4_leanFor_38 rfl rfl ?_
      refine rc_getO (q := 1) X (pc := 39) fX4_16 rb_ob8 rfl dX4_leanFor_39 ?_
      refine rb_aload_n X (pc := 42) dX4_leanFor_42 rfl rfl ?_
      refine rc_getO (q := 0) X (pc := 43) fX4_10 rb_ob8 rfl dX4_leanFor_43 ?_
      refine rc_callVv X (pc := 46) cvX3_becomes mX4_177 (rb_obT (t := 1) (by decide)) (qX3_becomes (t := 1) (t2 := 0) (by decide) (by decide) (by decide) (M2 := wl (sT σ)) rfl) (by decide) rfl rfl (Nat.le_of_ble_eq_true rfl) dX4_leanFor_46 ?_
      rw [rb_st_st]
      refine rb_aload_n X (pc := 49) dX4_leanFor_49 rfl rfl ?_
      refine rc_getO (q := 1) X (pc := 50) fX4_16 rb_ob8 rfl dX4_leanFor_50 ?_
      refine rc_getR X (pc := 53) fX4_66 (rb_obT (t := 1) (by decide)) rfl dX4_leanFor_53 ?_
      refine rb_iload_n X (pc := 56) dX4_leanFor_56 rfl rfl ?_
      refine rb_iload X (pc := 57) dX4_leanFor_57 rfl ?_
      refine rc_iast X (pc := 59) _ (rb_arT2 (t := 1) (by decide)) (tw_u (by decide) (by decide) (by decide)) rfl (by omega) dX4_leanFor_59 ?_
      refine rb_aload_n X (pc := 60) dX4_leanFor_60 rfl rfl ?_
      refine rc_getO (q := 1) X (pc := 61) fX4_16 rb_ob8 rfl dX4_leanFor_61 ?_
      refine rb_iload_n X (pc := 64) dX4_leanFor_64 rfl rfl ?_
      refine rc_callVv X (pc := 65) cvX3_passDays mX4_156 (rb_obT (t := 1) (by decide)) (qX3_passDays (t := 1) (by decide) (ok_u2r hok ⟨i, by omega, rfl⟩) (by omega)) (by decide) rfl rfl (Nat.le_of_ble_eq_true rfl) dX4_leanFor_65 ?_
      refine rb_aload_n X (pc := 68) dX4_leanFor_68 rfl rfl ?_
      refine rc_getO (q := 1) X (pc := 69) fX4_16 rb_ob8 rfl dX4_leanFor_69 ?_
      refine rc_getR X (pc := 72) fX4_63 (rb_obT (t := 1) (by decide)) rfl dX4_leanFor_72 ?_
      refine rb_iload_n X (pc := 75) dX4_leanFor_75 rfl rfl ?_
      refine rc_iald X (pc := 76) _ (rb_arT1 (t := 1) (by decide)) (rb_tj1 (t := 1)) rfl (by omega) dX4_leanFor_76 ?_
      refine rb_iload X (pc := 77) dX4_leanFor_77 rfl ?_
      refine rb_icmp_le X (pc := 79) (tgt := 96) dX4_leanFor_79 (by decide) (fun c79 => ?_) (fun c79 => ?_)
      · refine rb_iinc X (pc := 96) dX4_leanFor_96 rfl (sp_inc _) (by decide) rfl rfl ?_
        refine rb_goto X (pc := 99) (tgt := 31) dX4_leanFor_99 (by decide) ?_
        first
        | exact sp_go (by rw [k_arg_s, if_neg (Int32.not_lt.mpr c79)]; rfl) rfl (ih (i + 1) _ (by omega) (by omega))
        | exact sp_go (by rw [k_arg_s, if_pos (Int32.not_le.mp c79)]; rfl) rfl (ih (i + 1) _ (by omega) (by omega))
      · refine rb_aload_n X (pc := 82) dX4_leanFor_82 rfl rfl ?_
        refine rc_getO (q := 1) X (pc := 83) fX4_16 rb_ob8 rfl dX4_leanFor_83 ?_
        refine rc_getR X (pc := 86) fX4_63 (rb_obT (t := 1) (by decide)) rfl dX4_leanFor_86 ?_
        refine rb_iload_n X (pc := 89) dX4_leanFor_89 rfl rfl ?_
        refine rc_iald X (pc := 90) _ (rb_arT1 (t := 1) (by decide)) (rb_tj1 (t := 1)) rfl (by omega) dX4_leanFor_90 ?_
        refine rb_istore X (pc := 91) dX4_leanFor_91 (by decide) rfl rfl ?_
        refine rb_iload X (pc := 93) dX4_leanFor_93 rfl ?_
        refine rb_istore_n X (pc := 95) dX4_leanFor_95 rfl (by decide) rfl rfl ?_
        refine rb_iinc X (pc := 96) dX4_leanFor_96 rfl (sp_inc _) (by decide) rfl rfl ?_
        refine rb_goto X (pc := 99) (tgt := 31) dX4_leanFor_99 (by decide) ?_
        first
        | exact sp_go (by rw [k_arg_s, if_neg (Int32.not_lt.mpr c79)]; rfl) rfl (ih (i + 1) _ (by omega) (by omega))
        | exact sp_go (by rw [k_arg_s, if_pos (Int32.not_le.mp c79)]; rfl) rfl (ih (i + 1) _ (by omega) (by omega))
set_option maxRecDepth 100000 in
set_option maxHeartbeats 1000000 in
theorem qX4_leanFor {G : rb_G} {σ : Sg} {h : rb_H} (hS : okS σ) (hC : CI σ h)  (a n0 : Int32) : rb_M G 6 yX4_leanFor cX4_leanFor 6 (some .int) [.ref (rb_ad G 8 0), .int a, .int n0] (h) (PC h (r_leanFor σ a n0)) := by
  refine rb_meth (L := [.ref (rb_ad G 8 0), .int a, .int n0, .null, .null, .null]) (by decide) (Nat.le_of_ble_eq_true rfl) rfl (fun Z X Y => ?_)
  have X : rb_CX Z G cX4_leanFor 6 RX4 6 := X
  obtain ⟨h, rfl⟩ : ∃ h0, h = tw h0 0 (sT σ) := ⟨h, (rb_st_self hC.1).symm⟩
  have hok := hS.1
  have hn4 := hok.1
  have hn10 := hok.2.1
  refine rb_iload_n X (pc := 0) dX4_leanFor_0 rfl rfl ?_
  refine rc_callSi X (pc := 1) cvX4_isHouse mX4_44 (qX4_isHouse _) (by decide) rfl rfl (Nat.le_of_ble_eq_true rfl) dX4_leanFor_1 ?_
  refine rb_if_eq X (pc := 4) (tgt := 16) dX4_leanFor_4 (by decide) (fun c4 => ?_) (fun c4 => ?_)
  · (try simp only [sp_b0, Classical.not_not] at c4)
    refine rb_aload_n X (pc := 16) dX4_leanFor_16 rfl rfl ?_
    refine rb_ldc X (pc := 17) dX4_leanFor_17 kX4_56 ?_
    refine rc_callVi X (pc := 19) cvX4_finding mX4_57 rb_ob8 (qX4_finding (i := 0) (by decide) (by decide)) (by decide) rfl rfl (Nat.le_of_ble_eq_true rfl) dX4_leanFor_19 ?_
    refine rb_iret (S := []) X (pc := 22) Y dX4_leanFor_22 ?_
    first
    | exact pc_f hC (by simp [r_leanFor, ff_0, *]; done)
    | exact pc_Af hC (by simp [r_leanFor, ff_0, *]; done)
  · (try simp only [sp_b0, Classical.not_not] at c4)
    refine rb_iload_n X (pc := 7) dX4_leanFor_7 rfl rfl ?_
    refine rb_bipush (v := 20) X (pc := 8) dX4_leanFor_8 (by decide) ?_
    refine rc_callSi X (pc := 10) cvX4_isWithin mX4_52 (qX4_isWithin _ _) (by decide) rfl rfl (Nat.le_of_ble_eq_true rfl) dX4_leanFor_10 ?_
    refine rb_if_ne X (pc := 13) (tgt := 23) dX4_leanFor_13 (by decide) (fun c13 => ?_) (fun c13 => ?_)
    · (try simp only [sp_b0, Classical.not_not] at c13)
      obtain ⟨q, hq, rfl⟩ := iH_of c4
      obtain ⟨n, hn1, rfl⟩ := iN_of (n := 20) (by decide) c13
      refine rb_iconst (v := 0) X (pc := 23) dX4_leanFor_23 (by decide) ?_
      refine rb_istore_n X (pc := 24) dX4_leanFor_24 rfl (by decide) rfl rfl ?_
      refine rb_iconst (v := (-1)) X (pc := 25) dX4_leanFor_25 (by decide) ?_
      refine rb_istore X (pc := 26) dX4_leanFor_26 (by decide) rfl rfl ?_
      refine rb_iconst (v := 0) X (pc := 28) dX4_leanFor_28 (by decide) ?_
      refine rb_istore X (pc := 29) dX4_leanFor_29 (by decide) rfl rfl ?_
      exact sp_go (by rw [k_arg_0]; rfl) (rb_st_self rfl).symm (lpX4_leanFor_31 hS hC hn1 hq c13 c4 X Y 11 0 _ (by omega) (by omega))
    · (try simp only [sp_b0, Classical.not_not] at c13)
      refine rb_aload_n X (pc := 16) dX4_leanFor_16 rfl rfl ?_
      refine rb_ldc X (pc := 17) dX4_leanFor_17 kX4_56 ?_
      refine rc_callVi X (pc := 19) cvX4_finding mX4_57 rb_ob8 (qX4_finding (i := 0) (by decide) (by decide)) (by decide) rfl rfl (Nat.le_of_ble_eq_true rfl) dX4_leanFor_19 ?_
      refine rb_iret (S := []) X (pc := 22) Y dX4_leanFor_22 ?_
      first
      | exact pc_f hC (by simp [r_leanFor, ff_0, *]; done)
      | exact pc_Af hC (by simp [r_leanFor, ff_0, *]; done)
theorem k_kind_s {b a : Int32} {q : Nat} : k_kind b a (q + 1) = if sp_eats (nI (q + 1)) b a < sp_eats (k_kind b a q) b a then nI (q + 1) else k_kind b a q := by unfold k_kind; exact sp_fold_s
theorem k_kind_0 {b a : Int32} : k_kind b a 0 = 0 := by unfold k_kind; rfl
set_option maxRecDepth 100000 in
set_option maxHeartbeats 1000000 in
theorem lpX4_kind_41 {Z : rb_Z} {G : rb_G} {σ : Sg} {h : rb_H} (hS : okS σ) (hC : CI σ (tw h 0 (sT σ))) {r : Nat} (hr : r < sp_n (sT σ)) (cR : iR (sT σ) (nI r) = true) (X : rb_CX Z G cX4_kind 6 RX4 2) (Y : rb_RT Z G (some .int) (PC (tw h 0 (sT σ)) (r_kind σ (nI r)))) : ∀ fu : Nat, ∀ (i : Nat), i ≤ 5 → 6 ≤ i + fu → rb_WP Z G 6 41 [.ref (rb_ad G 8 0), .int (nI r), .int (sT σ 7 r), .int (sT σ 8 r), .int (k_kind (sT σ 7 r) (sT σ 8 r) i), .int (nI (i + 1))] [] (tw h 0 (sT σ)) := by
  intro fu
  induction fu with
  | zero => intro i hi hf; omega
  | succ fu ih =>
    intro i hi hf
    have hok := hS.1
    have hn10 := hok.2.1
    refine rb_iload X (pc := 41) dX4_kind_41 rfl ?_
    refine rb_bipush (v := 6) X (pc := 43) dX4_kind_43 (by decide) ?_
    refine rb_icmp_ge X (pc := 45) (tgt := 75) dX4_kind_45 (by decide) (fun c45 => ?_) (fun c45 => ?_)
    · have hi2 := (sp_geI (n := 6) rfl (by omega) (by omega)).mp c45
      obtain rfl : i = 5 := by omega
      refine rb_iload X (pc := 75) dX4_kind_75 rfl ?_
      refine rb_iret (S := []) X (pc := 77) Y dX4_kind_77 ?_
      exact pc_0 hC (by have er : ix (nI r) = r := nI_clamp (by omega); simp [r_kind, cR, er])
    · have hi2 : i + 1 < 6 := Nat.lt_of_not_le (fun z => c45 ((sp_geI (n := 6) rfl (by omega) (by omega)).mpr z))
      refine rb_iload X (pc := 48) dX4_kind_48 rfl ?_
      refine rb_iload_n X (pc := 50) dX4_kind_50 rfl rfl ?_
      refine rb_iload_n X (pc := 51) dX4_kind_51 rfl rfl ?_
      refine rc_callSi X (pc := 52) cvX0_eats mX4_188 (qX0_eats _ _ _) (by decide) rfl rfl (Nat.le_of_ble_eq_true rfl) dX4_kind_52 ?_
      refine rb_iload X (pc := 55) dX4_kind_55 rfl ?_
      refine rb_iload_n X (pc := 57) dX4_kind_57 rfl rfl ?_
      refine rb_iload_n X (pc := 58) dX4_kind_58 rfl rfl ?_
      refine rc_callSi X (pc := 59) cvX0_eats mX4_188 (qX0_eats _ _ _) (by decide) rfl rfl (Nat.le_of_ble_eq_true rfl) dX4_kind_59 ?_
      refine rb_icmp_ge X (pc := 62) (tgt := 69) dX4_kind_62 (by decide) (fun c62 => ?_) (fun c62 => ?_)
      · refine rb_iinc X (pc := 69) dX4_kind_69 rfl (sp_inc _) (by decide) rfl rfl ?_
        refine rb_goto X (pc := 72) (tgt := 41) dX4_kind_72 (by decide) ?_
        first
        | exact sp_go (by rw [k_kind_s, if_neg (Int32.not_lt.mpr c62)]; rfl) rfl (ih (i + 1) (by omega) (by omega))
        | exact sp_go (by rw [k_kind_s, if_pos (Int32.not_le.mp c62)]; rfl) rfl (ih (i + 1) (by omega) (by omega))
      · refine rb_iload X (pc := 65) dX4_kind_65 rfl ?_
        refine rb_istore X (pc := 67) dX4_kind_67 (by decide) rfl rfl ?_
        refine rb_iinc X (pc := 69) dX4_kind_69 rfl (sp_inc _) (by decide) rfl rfl ?_
        refine rb_goto X (pc := 72) (tgt := 41) dX4_kind_72 (by decide) ?_
        first
        | exact sp_go (by rw [k_kind_s, if_neg (Int32.not_lt.mpr c62)]; rfl) rfl (ih (i + 1) (by omega) (by omega))
        | exact sp_go (by rw [k_kind_s, if_pos (Int32.not_le.mp c62)]; rfl) rfl (ih (i + 1) (by omega) (by omega))
set_option maxRecDepth 100000 in
set_option maxHeartbeats 1000000 in
theorem qX4_kind {G : rb_G} {σ : Sg} {h : rb_H} (hS : okS σ) (hC : CI σ h)  (r0 : Int32) : rb_M G 2 yX4_kind cX4_kind 6 (some .int) [.ref (rb_ad G 8 0), .int r0] (h) (PC h (r_kind σ r0)) := by
  refine rb_meth (L := [.ref (rb_ad G 8 0), .int r0, .null, .null, .null, .null]) (by decide) (Nat.le_of_ble_eq_true rfl) rfl (fun Z X Y => ?_)
  have X : rb_CX Z G cX4_kind 6 RX4 2 := X
  obtain ⟨h, rfl⟩ : ∃ h0, h = tw h0 0 (sT σ) := ⟨h, (rb_st_self hC.1).symm⟩
  have hok := hS.1
  have hn4 := hok.1
  have hn10 := hok.2.1
  refine rb_aload_n X (pc := 0) dX4_kind_0 rfl rfl ?_
  refine rb_iload_n X (pc := 1) dX4_kind_1 rfl rfl ?_
  refine rc_callVi X (pc := 2) cvX4_isRumour mX4_93 rb_ob8 (qX4_isRumour _) (by decide) rfl rfl (Nat.le_of_ble_eq_true rfl) dX4_kind_2 ?_
  refine rb_if_ne X (pc := 5) (tgt := 15) dX4_kind_5 (by decide) (fun c5 => ?_) (fun c5 => ?_)
  · (try simp only [sp_b0, Classical.not_not] at c5)
    obtain ⟨r, hr, rfl⟩ := iR_of hok c5
    refine rb_aload_n X (pc := 15) dX4_kind_15 rfl rfl ?_
    refine rc_getO (q := 0) X (pc := 16) fX4_10 rb_ob8 rfl dX4_kind_16 ?_
    refine rc_getR X (pc := 19) fX4_102 (rb_obT (t := 0) (by decide)) rfl dX4_kind_19 ?_
    refine rb_iload_n X (pc := 22) dX4_kind_22 rfl rfl ?_
    refine rc_iald X (pc := 23) _ (rb_arT7 (t := 0) (by decide)) (rb_tj7 (t := 0)) rfl (by omega) dX4_kind_23 ?_
    refine rb_istore_n X (pc := 24) dX4_kind_24 rfl (by decide) rfl rfl ?_
    refine rb_aload_n X (pc := 25) dX4_kind_25 rfl rfl ?_
    refine rc_getO (q := 0) X (pc := 26) fX4_10 rb_ob8 rfl dX4_kind_26 ?_
    refine rc_getR X (pc := 29) fX4_105 (rb_obT (t := 0) (by decide)) rfl dX4_kind_29 ?_
    refine rb_iload_n X (pc := 32) dX4_kind_32 rfl rfl ?_
    refine rc_iald X (pc := 33) _ (rb_arT8 (t := 0) (by decide)) (rb_tj8 (t := 0)) rfl (by omega) dX4_kind_33 ?_
    refine rb_istore_n X (pc := 34) dX4_kind_34 rfl (by decide) rfl rfl ?_
    refine rb_iconst (v := 0) X (pc := 35) dX4_kind_35 (by decide) ?_
    refine rb_istore X (pc := 36) dX4_kind_36 (by decide) rfl rfl ?_
    refine rb_iconst (v := 1) X (pc := 38) dX4_kind_38 (by decide) ?_
    refine rb_istore X (pc := 39) dX4_kind_39 (by decide) rfl rfl ?_
    exact sp_go (by rw [k_kind_0]; rfl) rfl (lpX4_kind_41 hS hC hr c5 X Y 6 0 (by omega) (by omega))
  · (try simp only [sp_b0, Classical.not_not] at c5)
    refine rb_aload_n X (pc := 8) dX4_kind_8 rfl rfl ?_
    refine rb_ldc X (pc := 9) dX4_kind_9 kX4_56 ?_
    refine rc_callVi X (pc := 11) cvX4_finding mX4_57 rb_ob8 (qX4_finding (i := 0) (by decide) (by decide)) (by decide) rfl rfl (Nat.le_of_ble_eq_true rfl) dX4_kind_11 ?_
    refine rb_iret (S := []) X (pc := 14) Y dX4_kind_14 ?_
    first
    | exact pc_f hC (by simp [r_kind, ff_0, *]; done)
    | exact pc_Af hC (by simp [r_kind, ff_0, *]; done)
set_option maxRecDepth 100000 in
set_option maxHeartbeats 1000000 in
theorem lpX4_beds_25 {Z : rb_Z} {G : rb_G} {σ : Sg} {h : rb_H} (hS : okS σ) (hC : CI σ (tw h 0 (sT σ))) {n q : Nat} (hn : n ≤ 20) (hq : q < 8) (cN : iN (nI n) 20 = true) (cH : iH (nI q) = true) (X : rb_CX Z G cX4_beds 4 RX4 6) (Y : rb_RT Z G (some .int) (PC (tw h 0 (sT σ)) (r_beds σ (nI q) (nI n)))) : ∀ fu : Nat, ∀ (i : Nat) (M : rb_T), i ≤ 4 → 5 ≤ i + fu → (∀ b, b < i → decide (sp_those (sp_days (u2 (sT σ) 0 q (nI b)) n) (-1) (sp_n (sp_days (u2 (sT σ) 0 q (nI b)) n)) = 0) = false) → rb_WP Z G 4 25 [.ref (rb_ad G 8 0), .int (nI q), .int (nI n), .int (nI i)] [] (rb_st (tw h 0 (sT σ)) 1 M) := by
  intro fu
  induction fu with
  | zero => intro i M hi hf hno; omega
  | succ fu ih =>
    intro i M hi hf hno
    have hok := hS.1
    have hn10 := hok.2.1
    have en : ix (nI n) = n := nI_clamp (by omega)
    have eq1 : ix (nI q) = q := nI_clamp (by omega)
    refine rb_iload_n X (pc := 25) dX4_beds_25 rfl rfl ?_
    refine rb_iconst (v := 3) X (pc := 26) dX4_beds_26 (by decide) ?_
    refine rb_icmp_gt X (pc := 27) (tgt := 78) dX4_beds_27 (by decide) (fun c27 => ?_) (fun c27 => ?_)
    · have hi2 : 4 ≤ i := by
        have z := Int32.not_le.mpr c27
        rcases Nat.lt_or_ge i 4 with w | w
        · exact absurd ((nI_leI (b := 3) (by omega) (by omega)).mpr (by omega)) z
        · exact w
      obtain rfl : i = 4 := by omega
      refine rb_aload_n X (pc := 78) dX4_beds_78 rfl rfl ?_
      refine rb_ldc X (pc := 79) dX4_beds_79 kX4_184 ?_
      refine rc_callVi X (pc := 81) cvX4_finding mX4_57 rb_ob8 (qX4_finding (i := 3) (by decide) (by decide)) (by decide) rfl rfl (Nat.le_of_ble_eq_true rfl) dX4_beds_81 ?_
      refine rb_iret (S := []) X (pc := 84) Y dX4_beds_84 ?_
      have hk : k_beds (sT σ) q n = 4 := fa_first_none hno
      exact pc_Af hC (by simp [r_beds, cN, cH, en, eq1, hk, ff_3])
    · have hi2 : i ≤ 3 := (nI_leI (b := 3) (by omega) (by omega)).mp (Int32.not_lt.mp c27)
      have hkb := ok_u0 (i := q) hok ⟨i, hi2, rfl⟩
      have hkd := sp_days_ok hkb n
      refine rb_aload_n X (pc := 30) dX4_beds_30 rfl rfl ?_
      refine rc_getO (q := 1) X (pc := 31) fX4_16 rb_ob8 rfl dX4_beds_31 ?_
      refine rb_aload_n X (pc := 34) dX4_beds_34 rfl rfl ?_
      refine rc_getO (q := 0) X (pc := 35) fX4_10 rb_ob8 rfl dX4_beds_35 ?_
      refine rc_callVv X (pc := 38) cvX3_becomes mX4_177 (rb_obT (t := 1) (by decide)) (qX3_becomes (t := 1) (t2 := 0) (by decide) (by decide) (by decide) (M2 := wl (sT σ)) rfl) (by decide) rfl rfl (Nat.le_of_ble_eq_true rfl) dX4_beds_38 ?_
      rw [rb_st_st]
      refine rb_aload_n X (pc := 41) dX4_beds_41 rfl rfl ?_
      refine rc_getO (q := 1) X (pc := 42) fX4_16 rb_ob8 rfl dX4_beds_42 ?_
      refine rc_getR X (pc := 45) fX4_60 (rb_obT (t := 1) (by decide)) rfl dX4_beds_45 ?_
      refine rb_iload_n X (pc := 48) dX4_beds_48 rfl rfl ?_
      refine rb_iload_n X (pc := 49) dX4_beds_49 rfl rfl ?_
      refine rc_iast X (pc := 50) _ (rb_arT0 (t := 1) (by decide)) (tw_u (by decide) (by decide) (by decide)) rfl (by omega) dX4_beds_50 ?_
      refine rb_aload_n X (pc := 51) dX4_beds_51 rfl rfl ?_
      refine rc_getO (q := 1) X (pc := 52) fX4_16 rb_ob8 rfl dX4_beds_52 ?_
      refine rb_iload_n X (pc := 55) dX4_beds_55 rfl rfl ?_
      refine rc_callVv X (pc := 56) cvX3_passDays mX4_156 (rb_obT (t := 1) (by decide)) (qX3_passDays (t := 1) (by decide) hkb (by omega)) (by decide) rfl rfl (Nat.le_of_ble_eq_true rfl) dX4_beds_56 ?_
      refine rb_aload_n X (pc := 59) dX4_beds_59 rfl rfl ?_
      refine rc_getO (q := 1) X (pc := 60) fX4_16 rb_ob8 rfl dX4_beds_60 ?_
      refine rb_iconst (v := (-1)) X (pc := 63) dX4_beds_63 (by decide) ?_
      refine rc_callVi X (pc := 64) cvX3_thoseIn mX4_69 (rb_obT (t := 1) (by decide)) (qX3_thoseIn (t := 1) (by decide) hkd.1 hkd.2.1 _) (by decide) rfl rfl (Nat.le_of_ble_eq_true rfl) dX4_beds_64 ?_
      refine rb_if_ne X (pc := 67) (tgt := 72) dX4_beds_67 (by decide) (fun c67 => ?_) (fun c67 => ?_)
      · refine rb_iinc X (pc := 72) dX4_beds_72 rfl (sp_inc _) (by decide) rfl rfl ?_
        refine rb_goto X (pc := 75) (tgt := 25) dX4_beds_75 (by decide) ?_
        exact ih (i + 1) _ (by omega) (by omega) (fun b hb => by
          by_cases e : b = i
          · subst e; exact decide_eq_false (by simpa using c67)
          · exact hno b (by omega))
      · refine rb_iload_n X (pc := 70) dX4_beds_70 rfl rfl ?_
        refine rb_iret (S := []) X (pc := 71) Y dX4_beds_71 ?_
        have hk : k_beds (sT σ) q n = i := fa_first_eq (by omega) (decide_eq_true (by simpa using c67)) hno
        exact pc_A hC (by simp [r_beds, cN, cH, en, eq1, hk, show i < 4 by omega])
set_option maxRecDepth 100000 in
set_option maxHeartbeats 1000000 in
theorem qX4_beds {G : rb_G} {σ : Sg} {h : rb_H} (hS : okS σ) (hC : CI σ h)  (a n0 : Int32) : rb_M G 6 yX4_beds cX4_beds 4 (some .int) [.ref (rb_ad G 8 0), .int a, .int n0] (h) (PC h (r_beds σ a n0)) := by
  refine rb_meth (L := [.ref (rb_ad G 8 0), .int a, .int n0, .null]) (by decide) (Nat.le_of_ble_eq_true rfl) rfl (fun Z X Y => ?_)
  have X : rb_CX Z G cX4_beds 4 RX4 6 := X
  obtain ⟨h, rfl⟩ : ∃ h0, h = tw h0 0 (sT σ) := ⟨h, (rb_st_self hC.1).symm⟩
  have hok := hS.1
  have hn4 := hok.1
  have hn10 := hok.2.1
  refine rb_iload_n X (pc := 0) dX4_beds_0 rfl rfl ?_
  refine rc_callSi X (pc := 1) cvX4_isHouse mX4_44 (qX4_isHouse _) (by decide) rfl rfl (Nat.le_of_ble_eq_true rfl) dX4_beds_1 ?_
  refine rb_if_eq X (pc := 4) (tgt := 16) dX4_beds_4 (by decide) (fun c4 => ?_) (fun c4 => ?_)
  · (try simp only [sp_b0, Classical.not_not] at c4)
    refine rb_aload_n X (pc := 16) dX4_beds_16 rfl rfl ?_
    refine rb_ldc X (pc := 17) dX4_beds_17 kX4_56 ?_
    refine rc_callVi X (pc := 19) cvX4_finding mX4_57 rb_ob8 (qX4_finding (i := 0) (by decide) (by decide)) (by decide) rfl rfl (Nat.le_of_ble_eq_true rfl) dX4_beds_19 ?_
    refine rb_iret (S := []) X (pc := 22) Y dX4_beds_22 ?_
    first
    | exact pc_f hC (by simp [r_beds, ff_0, *]; done)
    | exact pc_Af hC (by simp [r_beds, ff_0, *]; done)
  · (try simp only [sp_b0, Classical.not_not] at c4)
    refine rb_iload_n X (pc := 7) dX4_beds_7 rfl rfl ?_
    refine rb_bipush (v := 20) X (pc := 8) dX4_beds_8 (by decide) ?_
    refine rc_callSi X (pc := 10) cvX4_isWithin mX4_52 (qX4_isWithin _ _) (by decide) rfl rfl (Nat.le_of_ble_eq_true rfl) dX4_beds_10 ?_
    refine rb_if_ne X (pc := 13) (tgt := 23) dX4_beds_13 (by decide) (fun c13 => ?_) (fun c13 => ?_)
    · (try simp only [sp_b0, Classical.not_not] at c13)
      obtain ⟨q, hq, rfl⟩ := iH_of c4
      obtain ⟨n, hn1, rfl⟩ := iN_of (n := 20) (by decide) c13
      refine rb_iconst (v := 0) X (pc := 23) dX4_beds_23 (by decide) ?_
      refine rb_istore_n X (pc := 24) dX4_beds_24 rfl (by decide) rfl rfl ?_
      exact sp_go rfl (rb_st_self rfl).symm (lpX4_beds_25 hS hC hn1 hq c13 c4 X Y 5 0 _ (by omega) (by omega) (fun b hb => absurd hb (by omega)))
    · (try simp only [sp_b0, Classical.not_not] at c13)
      refine rb_aload_n X (pc := 16) dX4_beds_16 rfl rfl ?_
      refine rb_ldc X (pc := 17) dX4_beds_17 kX4_56 ?_
      refine rc_callVi X (pc := 19) cvX4_finding mX4_57 rb_ob8 (qX4_finding (i := 0) (by decide) (by decide)) (by decide) rfl rfl (Nat.le_of_ble_eq_true rfl) dX4_beds_19 ?_
      refine rb_iret (S := []) X (pc := 22) Y dX4_beds_22 ?_
      first
      | exact pc_f hC (by simp [r_beds, ff_0, *]; done)
      | exact pc_Af hC (by simp [r_beds, ff_0, *]; done)
