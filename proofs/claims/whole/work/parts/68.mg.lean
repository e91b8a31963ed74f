theorem mo_row {h : rb_H} {T : rb_T} {B : Nat → Int32} : mo (rb_row h 9 3 B) T = mo h T := rb_row_row
theorem mo_self {h : rb_H} : rb_row h 9 3 (h.1 9 3) = h := rb_row_self rfl
set_option maxRecDepth 100000 in
set_option maxHeartbeats 1000000 in
theorem lpX5_leanFor_37 {Z : rb_Z} {G : rb_G} {σ : Sg} {h : rb_H} (hS : okS σ) (hM : MI σ (ms h (sT σ))) {q n : Nat} (hq : q < 8) (hn : n ≤ 20) (cH : iH (nI q) = true) (cN : iN (nI n) 20 = true) (X : rb_CX Z G cX5_leanFor 8 RX5 9) (Y : rb_RT Z G (some .int) (PM (ms h (sT σ)) (r_leanFor σ (nI q) (nI n)))) : ∀ fu : Nat, ∀ (i : Nat) (T1 : rb_T) (B : Nat → Int32), (∀ v, u2 T1 2 q v = u2 (sT σ) 2 q v) → i ≤ 10 → 11 ≤ i + fu → rb_WP Z G 8 37 [.ref (rb_ad G 9 0), .int (nI q), .int (nI n), .int (sT σ 2 q), .int (k_arg (fun v => sp_days (u2 (sT σ) 2 q (nI v)) n 1 q) i).1, .int (k_arg (fun v => sp_days (u2 (sT σ) 2 q (nI v)) n 1 q) i).2, .int (nI i), .null] [] (ms (rb_row h 9 3 B) T1) := by
  intro fu
  induction fu with
  | zero => intro i T1 B hT hi hf; omega
  | succ fu ih =>
    intro i T1 B hT hi hf
    have hok := hS.1
    refine rb_iload X (pc := 37) dX5_leanFor_37 rfl ?_
    refine rb_bipush (v := 9) X (pc := 39) dX5_leanFor_39 (by decide) ?_
    refine rb_icmp_gt X (pc := 41) (tgt := 106) dX5_leanFor_41 (by decide) (fun c41 => ?_) (fun c41 => ?_)
    · have h1 := (nI_ltI (a := 9) (by omega) (by omega)).mp c41
      obtain rfl : i = 10 := by omega
      refine rb_aload_n X (pc := 106) dX5_leanFor_106 rfl rfl ?_
      refine rc_getR X (pc := 107) fX5_7 rb_ob9 rfl dX5_leanFor_107 ?_
      refine rb_iload_n X (pc := 110) dX5_leanFor_110 rfl rfl ?_
      refine rb_iconst (v := 2) X (pc := 111) dX5_leanFor_111 (by decide) ?_
      refine rc_callSi X (pc := 112) cvX5_partOf mX5_41 (qX5_partOf (w := 2)) (by decide) rfl rfl (Nat.le_of_ble_eq_true rfl) dX5_leanFor_112 ?_
      refine rb_iload_n X (pc := 115) dX5_leanFor_115 rfl rfl ?_
      refine rc_iast X (pc := 116) _ rb_ar9_0 (ms_p2 (by omega)) rfl (by omega) dX5_leanFor_116 ?_
      rw [hT, u2_self rfl]
      refine rb_iload X (pc := 117) dX5_leanFor_117 rfl ?_
      refine rb_iret (S := []) X (pc := 119) Y dX5_leanFor_119 ?_
      have en : ix (nI n) = n := nI_clamp (by omega)
      have eq1 : ix (nI q) = q := nI_clamp (by omega)
      exact pm_A hM (by simp [r_leanFor, cH, cN, en, eq1])
    · have h1 : ¬ 9 < i := fun z => c41 ((nI_ltI (a := 9) (by omega) (by omega)).mpr z)
      refine rb_aload_n X (pc := 44) dX5_leanFor_44 rfl rfl ?_
      refine rc_getR X (pc := 45) fX5_7 rb_ob9 rfl dX5_leanFor_45 ?_
      refine rb_iload_n X (pc := 48) dX5_leanFor_48 rfl rfl ?_
      refine rb_iconst (v := 2) X (pc := 49) dX5_leanFor_49 (by decide) ?_
      refine rc_callSi X (pc := 50) cvX5_partOf mX5_41 (qX5_partOf (w := 2)) (by decide) rfl rfl (Nat.le_of_ble_eq_true rfl) dX5_leanFor_50 ?_
      refine rb_iload X (pc := 53) dX5_leanFor_53 rfl ?_
      refine rc_iast X (pc := 55) _ rb_ar9_0 (ms_p2 (by omega)) rfl (by omega) dX5_leanFor_55 ?_
      rw [hT]
      refine rb_aload_n X (pc := 56) dX5_leanFor_56 rfl rfl ?_
      refine rb_iload_n X (pc := 57) dX5_leanFor_57 rfl rfl ?_
      refine rb_iconst (v := 1) X (pc := 58) dX5_leanFor_58 (by decide) ?_
      refine rc_callSi X (pc := 59) cvX5_partOf mX5_41 (qX5_partOf (w := 1)) (by decide) rfl rfl (Nat.le_of_ble_eq_true rfl) dX5_leanFor_59 ?_
      refine rb_iload_n X (pc := 62) dX5_leanFor_62 rfl rfl ?_
      refine rc_callVi X (pc := 63) cvX5_behind mX5_193 rb_ob9 (qX5_behind (ok_u2r hok ⟨i, by omega, rfl⟩) (by omega) (by omega)) (by decide) rfl rfl (Nat.le_of_ble_eq_true rfl) dX5_leanFor_63 ?_
      rw [enc_h hq (by decide), mo_row]
      refine rb_istore X (pc := 66) dX5_leanFor_66 (by decide) rfl rfl ?_
      refine rb_iload X (pc := 68) dX5_leanFor_68 rfl ?_
      refine rb_iload X (pc := 70) dX5_leanFor_70 rfl ?_
      refine rb_icmp_le X (pc := 72) (tgt := 80) dX5_leanFor_72 (by decide) (fun c72 => ?_) (fun c72 => ?_)
      · refine rb_iload X (pc := 80) dX5_leanFor_80 rfl ?_
        refine rb_istore X (pc := 82) dX5_leanFor_82 (by decide) rfl rfl ?_
        refine rb_iload X (pc := 84) dX5_leanFor_84 rfl ?_
        refine rb_iload X (pc := 86) dX5_leanFor_86 rfl ?_
        refine rb_icmp_le X (pc := 88) (tgt := 96) dX5_leanFor_88 (by decide) (fun c88 => ?_) (fun c88 => ?_)
        · refine rb_iload X (pc := 96) dX5_leanFor_96 rfl ?_
          refine rb_istore X (pc := 98) dX5_leanFor_98 (by decide) rfl rfl ?_
          refine rb_iinc X (pc := 100) dX5_leanFor_100 rfl (sp_inc _) (by decide) rfl rfl ?_
          refine rb_goto X (pc := 103) (tgt := 37) dX5_leanFor_103 (by decide) ?_
          first
          | exact absurd c72 c88
          | exact absurd c88 c72
          | exact sp_drop 7 (sp_go (by rw [k_arg_s, if_neg (Int32.not_lt.mpr c72)]; rfl) rfl (ih (i + 1) (u2 (sT σ) 2 q (nI i)) (enc (u2 (sT σ) 2 q (nI i))) (fun v => u2_u2) (by omega) (by omega)))
          | exact sp_drop 7 (sp_go (by rw [k_arg_s, if_pos (Int32.not_le.mp c72)]; rfl) rfl (ih (i + 1) (u2 (sT σ) 2 q (nI i)) (enc (u2 (sT σ) 2 q (nI i))) (fun v => u2_u2) (by omega) (by omega)))
        · refine rb_iload X (pc := 91) dX5_leanFor_91 rfl ?_
          refine rb_goto X (pc := 93) (tgt := 98) dX5_leanFor_93 (by decide) ?_
          refine rb_istore X (pc := 98) dX5_leanFor_98 (by decide) rfl rfl ?_
          refine rb_iinc X (pc := 100) dX5_leanFor_100 rfl (sp_inc _) (by decide) rfl rfl ?_
          refine rb_goto X (pc := 103) (tgt := 37) dX5_leanFor_103 (by decide) ?_
          first
          | exact absurd c72 c88
          | exact absurd c88 c72
          | exact sp_drop 7 (sp_go (by rw [k_arg_s, if_neg (Int32.not_lt.mpr c72)]; rfl) rfl (ih (i + 1) (u2 (sT σ) 2 q (nI i)) (enc (u2 (sT σ) 2 q (nI i))) (fun v => u2_u2) (by omega) (by omega)))
          | exact sp_drop 7 (sp_go (by rw [k_arg_s, if_pos (Int32.not_le.mp c72)]; rfl) rfl (ih (i + 1) (u2 (sT σ) 2 q (nI i)) (enc (u2 (sT σ) 2 q (nI i))) (fun v => u2_u2) (by omega) (by omega)))
      · refine rb_iload X (pc := 75) dX5_leanFor_75 rfl ?_
        refine rb_goto X (pc := 77) (tgt := 82) dX5_leanFor_77 (by decide) ?_
        refine rb_istore X (pc := 82) dX5_leanFor_82 (by decide) rfl rfl ?_
        refine rb_iload X (pc := 84) dX5_leanFor_84 rfl ?_
        refine rb_iload X (pc := 86) dX5_leanFor_86 rfl ?_
        refine rb_icmp_le X (pc := 88) (tgt := 96) dX5_leanFor_88 (by decide) (fun c88 => ?_) (fun c88 => ?_)
        · refine rb_iload X (pc := 96) dX5_leanFor_96 rfl ?_
          refine rb_istore X (pc := 98) dX5_leanFor_98 (by decide) rfl rfl ?_
          refine rb_iinc X (pc := 100) dX5_leanFor_100 rfl (sp_inc _) (by decide) rfl rfl ?_
          refine rb_goto X (pc := 103) (tgt := 37) dX5_leanFor_103 (by decide) ?_
          first
          | exact absurd c72 c88
          | exact absurd c88 c72
          | exact sp_drop 7 (sp_go (by rw [k_arg_s, if_neg (Int32.not_lt.mpr c72)]; rfl) rfl (ih (i + 1) (u2 (sT σ) 2 q (nI i)) (enc (u2 (sT σ) 2 q (nI i))) (fun v => u2_u2) (by omega) (by omega)))
          | exact sp_drop 7 (sp_go (by rw [k_arg_s, if_pos (Int32.not_le.mp c72)]; rfl) rfl (ih (i + 1) (u2 (sT σ) 2 q (nI i)) (enc (u2 (sT σ) 2 q (nI i))) (fun v => u2_u2) (by omega) (by omega)))
        · refine rb_iload X (pc := 91) dX5_leanFor_91 rfl ?_
          refine rb_goto X (pc := 93) (tgt := 98) dX5_leanFor_93 (by decide) ?_
          refine rb_istore X (pc := 98) dX5_leanFor_98 (by decide) rfl rfl ?_
          refine rb_iinc X (pc := 100) dX5_leanFor_100 rfl (sp_inc _) (by decide) rfl rfl ?_
          refine rb_goto X (pc := 103) (tgt := 37) dX5_leanFor_103 (by decide) ?_
          first
          | exact absurd c72 c88
          | exact absurd c88 c72
          | exact sp_drop 7 (sp_go (by rw [k_arg_s, if_neg (Int32.not_lt.mpr c72)]; rfl) rfl (ih (i + 1) (u2 (sT σ) 2 q (nI i)) (enc (u2 (sT σ) 2 q (nI i))) (fun v => u2_u2) (by omega) (by omega)))
          | exact sp_drop 7 (sp_go (by rw [k_arg_s, if_pos (Int32.not_le.mp c72)]; rfl) rfl (ih (i + 1) (u2 (sT σ) 2 q (nI i)) (enc (u2 (sT σ) 2 q (nI i))) (fun v => u2_u2) (by omega) (by omega)))
set_option maxRecDepth 100000 in
set_option maxHeartbeats 1000000 in
theorem qX5_leanFor {G : rb_G} {σ : Sg} {h : rb_H} (hS : okS σ) (hM : MI σ h)  (a n0 : Int32) : rb_M G 9 yX5_leanFor cX5_leanFor 8 (some .int) [.ref (rb_ad G 9 0), .int a, .int n0] (h) (PM h (r_leanFor σ a n0)) := by
  refine rb_meth (L := [.ref (rb_ad G 9 0), .int a, .int n0, .null, .null, .null, .null, .null]) (by decide) (Nat.le_of_ble_eq_true rfl) rfl (fun Z X Y => ?_)
  have X : rb_CX Z G cX5_leanFor 8 RX5 9 := X
  obtain ⟨h, rfl⟩ : ∃ h0, h = ms h0 (sT σ) := ⟨h, (rb_row_self hM.1).symm⟩
  have hok := hS.1
  have hn4 := hok.1
  have hn10 := hok.2.1
  refine rb_iload_n X (pc := 0) dX5_leanFor_0 rfl rfl ?_
  refine rc_callSi X (pc := 1) cvX5_isHouse mX5_67 (qX5_isHouse _) (by decide) rfl rfl (Nat.le_of_ble_eq_true rfl) dX5_leanFor_1 ?_
  refine rb_if_eq X (pc := 4) (tgt := 14) dX5_leanFor_4 (by decide) (fun c4 => ?_) (fun c4 => ?_)
  · (try simp only [sp_b0, Classical.not_not] at c4)
    refine rb_aload_n X (pc := 14) dX5_leanFor_14 rfl rfl ?_
    refine rb_ldc X (pc := 15) dX5_leanFor_15 kX5_45 ?_
    refine rc_callVi X (pc := 17) cvX5_finds mX5_74 rb_ob9 (qX5_finds (i := 0) (by decide) (by decide)) (by decide) rfl rfl (Nat.le_of_ble_eq_true rfl) dX5_leanFor_17 ?_
    refine rb_iret (S := []) X (pc := 20) Y dX5_leanFor_20 ?_
    exact pm_f hM (by simp [r_leanFor, ff_0, *]; done)
  · (try simp only [sp_b0, Classical.not_not] at c4)
    refine rb_iload_n X (pc := 7) dX5_leanFor_7 rfl rfl ?_
    refine rc_callSi X (pc := 8) cvX5_isSoon mX5_203 (qX5_isSoon _) (by decide) rfl rfl (Nat.le_of_ble_eq_true rfl) dX5_leanFor_8 ?_
    refine rb_if_ne X (pc := 11) (tgt := 21) dX5_leanFor_11 (by decide) (fun c11 => ?_) (fun c11 => ?_)
    · (try simp only [sp_b0, Classical.not_not] at c11)
      obtain ⟨q, hq, rfl⟩ := iH_of c4
      have eq1 : ix (nI q) = q := nI_clamp (by omega)
      obtain ⟨n, hn1, rfl⟩ := iN_of (n := 20) (by decide) c11
      refine rb_aload_n X (pc := 21) dX5_leanFor_21 rfl rfl ?_
      refine rb_iload_n X (pc := 22) dX5_leanFor_22 rfl rfl ?_
      refine rb_iconst (v := 2) X (pc := 23) dX5_leanFor_23 (by decide) ?_
      refine rc_callVi X (pc := 24) cvX5_has mX5_84 rb_ob9 (qH2 (by omega)) (by decide) rfl rfl (Nat.le_of_ble_eq_true rfl) dX5_leanFor_24 ?_
      refine rb_istore_n X (pc := 27) dX5_leanFor_27 rfl (by decide) rfl rfl ?_
      refine rb_iconst (v := 0) X (pc := 28) dX5_leanFor_28 (by decide) ?_
      refine rb_istore X (pc := 29) dX5_leanFor_29 (by decide) rfl rfl ?_
      refine rb_iconst (v := (-1)) X (pc := 31) dX5_leanFor_31 (by decide) ?_
      refine rb_istore X (pc := 32) dX5_leanFor_32 (by decide) rfl rfl ?_
      refine rb_iconst (v := 0) X (pc := 34) dX5_leanFor_34 (by decide) ?_
      refine rb_istore X (pc := 35) dX5_leanFor_35 (by decide) rfl rfl ?_
      exact sp_go (by rw [k_arg_0]; rfl) (by rw [mo_self]) (lpX5_leanFor_37 hS hM hq hn1 c4 c11 X Y 11 0 (sT σ) (h.1 9 3) (fun v => rfl) (by omega) (by omega))
    · (try simp only [sp_b0, Classical.not_not] at c11)
      refine rb_aload_n X (pc := 14) dX5_leanFor_14 rfl rfl ?_
      refine rb_ldc X (pc := 15) dX5_leanFor_15 kX5_45 ?_
      refine rc_callVi X (pc := 17) cvX5_finds mX5_74 rb_ob9 (qX5_finds (i := 0) (by decide) (by decide)) (by decide) rfl rfl (Nat.le_of_ble_eq_true rfl) dX5_leanFor_17 ?_
      refine rb_iret (S := []) X (pc := 20) Y dX5_leanFor_20 ?_
      exact pm_f hM (by simp [r_leanFor, ff_0, *]; done)
def kSt (b a : Int32) (i : Nat) (K Ls : Int32) : Prop := (i = 0 ∧ K = 0 ∧ Ls = 999) ∨ ∃ m, i = m + 1 ∧ K = k_kind b a m ∧ Ls = sp_eats K b a
theorem kd_no {b a K Ls : Int32} {i : Nat} (h : kSt b a i K Ls) (h9 : sp_eats 0 b a < 999) (c : Ls ≤ sp_eats (nI i) b a) : kSt b a (i + 1) K Ls := by
  rcases h with ⟨rfl, rfl, rfl⟩ | ⟨m, rfl, hK, hL⟩
  · exact absurd h9 (Int32.not_lt.mpr c)
  · refine Or.inr ⟨m + 1, rfl, ?_, hL⟩
    rw [k_kind_s, ← hK, ← hL, if_neg (Int32.not_lt.mpr c)]
theorem kd_yes {b a K Ls : Int32} {i : Nat} (h : kSt b a i K Ls) (c : ¬ Ls ≤ sp_eats (nI i) b a) : kSt b a (i + 1) (nI i) (sp_eats (nI i) b a) := by
  rcases h with ⟨rfl, rfl, rfl⟩ | ⟨m, rfl, hK, hL⟩
  · exact Or.inr ⟨0, rfl, rfl, rfl⟩
  · refine Or.inr ⟨m + 1, rfl, ?_, rfl⟩
    rw [k_kind_s, ← hK, ← hL, if_pos (Int32.not_le.mp c)]
theorem eats9 {T : rb_T} (hok : sp_ok T) {r : Nat} (hr : r < 10) : sp_eats 0 (T 7 r) (T 8 r) < 999 := by
  obtain ⟨-, -, ⟨b, hb, eb⟩, ⟨a, ha, ea⟩, -⟩ := hok.2.2.1 r hr
  have e := sp_eatsN (k := 0) (by omega) hb ha
  have hl := sp_eN_le (k := 0) (a := a) hb
  rw [eb, ea, show (0 : Int32) = nI 0 from rfl, e]
  exact (nI_ltI (b := 999) (by omega) (by omega)).mpr (by omega)
theorem eR_5 {T : rb_T} {r : Nat} {v : Int32} : sp_eR (u2 T 5 r v) r = sp_eats v (T 7 r) (T 8 r) := by
  show sp_eats (u2 T 5 r v 5 r) (T 7 r) (T 8 r) = _
  rw [u2_same]
set_option maxRecDepth 100000 in
set_option maxHeartbeats 1000000 in
theorem lpX5_kind_32 {Z : rb_Z} {G : rb_G} {σ : Sg} {h : rb_H} (hS : okS σ) (hM : MI σ (ms h (sT σ))) {r : Nat} (hr : r < sp_n (sT σ)) (cR : iR (sT σ) (nI r) = true) (X : rb_CX Z G cX5_kind 7 RX5 3) (Y : rb_RT Z G (some .int) (PM (ms h (sT σ)) (r_kind σ (nI r)))) : ∀ fu : Nat, ∀ (i : Nat) (T1 : rb_T) (K Ls : Int32), (∀ v, u2 T1 5 r v = u2 (sT σ) 5 r v) → i ≤ 6 → 7 ≤ i + fu → kSt (sT σ 7 r) (sT σ 8 r) i K Ls → rb_WP Z G 7 32 [.ref (rb_ad G 9 0), .int (nI r), .int (sT σ 5 r), .int K, .int Ls, .int (nI i), .null] [] (ms h T1) := by
  intro fu
  induction fu with
  | zero => intro i T1 K Ls hT hi hf hk; omega
  | succ fu ih =>
    intro i T1 K Ls hT hi hf hk
    have hok := hS.1
    have hn10 := hok.2.1
    have h9 := eats9 hok (show r < 10 by omega)
    refine rb_iload X (pc := 32) dX5_kind_32 rfl ?_
    refine rb_iconst (v := 5) X (pc := 34) dX5_kind_34 (by decide) ?_
    refine rb_icmp_gt X (pc := 35) (tgt := 93) dX5_kind_35 (by decide) (fun c35 => ?_) (fun c35 => ?_)
    · have h1 := (nI_ltI (a := 5) (by omega) (by omega)).mp c35
      obtain rfl : i = 6 := by omega
      refine rb_aload_n X (pc := 93) dX5_kind_93 rfl rfl ?_
      refine rc_getR X (pc := 94) fX5_7 rb_ob9 rfl dX5_kind_94 ?_
      refine rb_iload_n X (pc := 97) dX5_kind_97 rfl rfl ?_
      refine rb_iconst (v := 0) X (pc := 98) dX5_kind_98 (by decide) ?_
      refine rc_callSi X (pc := 99) cvX5_spotOf mX5_56 (qX5_spotOf (w := 0)) (by decide) rfl rfl (Nat.le_of_ble_eq_true rfl) dX5_kind_99 ?_
      refine rb_iload_n X (pc := 102) dX5_kind_102 rfl rfl ?_
      refine rc_iast X (pc := 103) _ rb_ar9_0 (ms_r0 (by omega)) rfl (by omega) dX5_kind_103 ?_
      rw [hT, u2_self rfl]
      refine rb_iload_n X (pc := 104) dX5_kind_104 rfl rfl ?_
      refine rb_iret (S := []) X (pc := 105) Y dX5_kind_105 ?_
      refine pm_0 hM ?_
      rcases hk with ⟨z, -, -⟩ | ⟨m, z, hK, -⟩
      · omega
      · obtain rfl : m = 5 := by omega
        have er : ix (nI r) = r := nI_clamp (by omega)
        rw [r_kind, if_pos cR, er, hK]
    · have h1 : ¬ 5 < i := fun z => c35 ((nI_ltI (a := 5) (by omega) (by omega)).mpr z)
      refine rb_aload_n X (pc := 38) dX5_kind_38 rfl rfl ?_
      refine rc_getR X (pc := 39) fX5_7 rb_ob9 rfl dX5_kind_39 ?_
      refine rb_iload_n X (pc := 42) dX5_kind_42 rfl rfl ?_
      refine rb_iconst (v := 0) X (pc := 43) dX5_kind_43 (by decide) ?_
      refine rc_callSi X (pc := 44) cvX5_spotOf mX5_56 (qX5_spotOf (w := 0)) (by decide) rfl rfl (Nat.le_of_ble_eq_true rfl) dX5_kind_44 ?_
      refine rb_iload X (pc := 47) dX5_kind_47 rfl ?_
      refine rc_iast X (pc := 49) _ rb_ar9_0 (ms_r0 (by omega)) rfl (by omega) dX5_kind_49 ?_
      rw [hT]
      refine rb_aload_n X (pc := 50) dX5_kind_50 rfl rfl ?_
      refine rb_iload_n X (pc := 51) dX5_kind_51 rfl rfl ?_
      refine rc_callVi X (pc := 52) cvX5_eats mX5_81 rb_ob9 (qX5_eats (by omega)) (by decide) rfl rfl (Nat.le_of_ble_eq_true rfl) dX5_kind_52 ?_
      rw [eR_5]
      refine rb_istore X (pc := 55) dX5_kind_55 (by decide) rfl rfl ?_
      refine rb_iload X (pc := 57) dX5_kind_57 rfl ?_
      refine rb_iload X (pc := 59) dX5_kind_59 rfl ?_
      refine rb_icmp_ge X (pc := 61) (tgt := 69) dX5_kind_61 (by decide) (fun c61 => ?_) (fun c61 => ?_)
      · refine rb_iload_n X (pc := 69) dX5_kind_69 rfl rfl ?_
        refine rb_istore_n X (pc := 70) dX5_kind_70 rfl (by decide) rfl rfl ?_
        refine rb_iload X (pc := 71) dX5_kind_71 rfl ?_
        refine rb_iload X (pc := 73) dX5_kind_73 rfl ?_
        refine rb_icmp_ge X (pc := 75) (tgt := 83) dX5_kind_75 (by decide) (fun c75 => ?_) (fun c75 => ?_)
        · refine rb_iload X (pc := 83) dX5_kind_83 rfl ?_
          refine rb_istore X (pc := 85) dX5_kind_85 (by decide) rfl rfl ?_
          refine rb_iinc X (pc := 87) dX5_kind_87 rfl (sp_inc _) (by decide) rfl rfl ?_
          refine rb_goto X (pc := 90) (tgt := 32) dX5_kind_90 (by decide) ?_
          first
          | exact absurd c61 c75
          | exact absurd c75 c61
          | exact sp_drop 6 (sp_go rfl rfl (ih (i + 1) _ K Ls (fun v => u2_u2) (by omega) (by omega) (kd_no hk h9 c61)))
          | exact sp_drop 6 (sp_go rfl rfl (ih (i + 1) _ (nI i) _ (fun v => u2_u2) (by omega) (by omega) (kd_yes hk c61)))
        · refine rb_iload X (pc := 78) dX5_kind_78 rfl ?_
          refine rb_goto X (pc := 80) (tgt := 85) dX5_kind_80 (by decide) ?_
          refine rb_istore X (pc := 85) dX5_kind_85 (by decide) rfl rfl ?_
          refine rb_iinc X (pc := 87) dX5_kind_87 rfl (sp_inc _) (by decide) rfl rfl ?_
          refine rb_goto X (pc := 90) (tgt := 32) dX5_kind_90 (by decide) ?_
          first
          | exact absurd c61 c75
          | exact absurd c75 c61
          | exact sp_drop 6 (sp_go rfl rfl (ih (i + 1) _ K Ls (fun v => u2_u2) (by omega) (by omega) (kd_no hk h9 c61)))
          | exact sp_drop 6 (sp_go rfl rfl (ih (i + 1) _ (nI i) _ (fun v => u2_u2) (by omega) (by omega) (kd_yes hk c61)))
      · refine rb_iload X (pc := 64) dX5_kind_64 rfl ?_
        refine rb_goto X (pc := 66) (tgt := 70) dX5_kind_66 (by decide) ?_
        refine rb_istore_n X (pc := 70) dX5_kind_70 rfl (by decide) rfl rfl ?_
        refine rb_iload X (pc := 71) dX5_kind_71 rfl ?_
        refine rb_iload X (pc := 73) dX5_kind_73 rfl ?_
        refine rb_icmp_ge X (pc := 75) (tgt := 83) dX5_kind_75 (by decide) (fun c75 => ?_) (fun c75 => ?_)
        · refine rb_iload X (pc := 83) dX5_kind_83 rfl ?_
          refine rb_istore X (pc := 85) dX5_kind_85 (by decide) rfl rfl ?_
          refine rb_iinc X (pc := 87) dX5_kind_87 rfl (sp_inc _) (by decide) rfl rfl ?_
          refine rb_goto X (pc := 90) (tgt := 32) dX5_kind_90 (by decide) ?_
          first
          | exact absurd c61 c75
          | exact absurd c75 c61
          | exact sp_drop 6 (sp_go rfl rfl (ih (i + 1) _ K Ls (fun v => u2_u2) (by omega) (by omega) (kd_no hk h9 c61)))
          | exact sp_drop 6 (sp_go rfl rfl (ih (i + 1) _ (nI i) _ (fun v => u2_u2) (by omega) (by omega) (kd_yes hk c61)))
        · refine rb_iload X (pc := 78) dX5_kind_78 rfl ?_
          refine rb_goto X (pc := 80) (tgt := 85) dX5_kind_80 (by decide) ?_
          refine rb_istore X (pc := 85) dX5_kind_85 (by decide) rfl rfl ?_
          refine rb_iinc X (pc := 87) dX5_kind_87 rfl (sp_inc _) (by decide) rfl rfl ?_
          refine rb_goto X (pc := 90) (tgt := 32) dX5_kind_90 (by decide) ?_
          first
          | exact absurd c61 c75
          | exact absurd c75 c61
          | exact sp_drop 6 (sp_go rfl rfl (ih (i + 1) _ K Ls (fun v => u2_u2) (by omega) (by omega) (kd_no hk h9 c61)))
          | exact sp_drop 6 (sp_go rfl rfl (ih (i + 1) _ (nI i) _ (fun v => u2_u2) (by omega) (by omega) (kd_yes hk c61)))
set_option maxRecDepth 100000 in
set_option maxHeartbeats 1000000 in
theorem qX5_kind {G : rb_G} {σ : Sg} {h : rb_H} (hS : okS σ) (hM : MI σ h)  (r0 : Int32) : rb_M G 3 yX5_kind cX5_kind 7 (some .int) [.ref (rb_ad G 9 0), .int r0] (h) (PM h (r_kind σ r0)) := by
  refine rb_meth (L := [.ref (rb_ad G 9 0), .int r0, .null, .null, .null, .null, .null]) (by decide) (Nat.le_of_ble_eq_true rfl) rfl (fun Z X Y => ?_)
  have X : rb_CX Z G cX5_kind 7 RX5 3 := X
  obtain ⟨h, rfl⟩ : ∃ h0, h = ms h0 (sT σ) := ⟨h, (rb_row_self hM.1).symm⟩
  have hok := hS.1
  have hn4 := hok.1
  have hn10 := hok.2.1
  refine rb_aload_n X (pc := 0) dX5_kind_0 rfl rfl ?_
  refine rb_iload_n X (pc := 1) dX5_kind_1 rfl rfl ?_
  refine rc_callVi X (pc := 2) cvX5_isRumour mX5_106 rb_ob9 (qX5_isRumour hn4 hn10 _) (by decide) rfl rfl (Nat.le_of_ble_eq_true rfl) dX5_kind_2 ?_
  refine rb_if_ne X (pc := 5) (tgt := 15) dX5_kind_5 (by decide) (fun c5 => ?_) (fun c5 => ?_)
  · (try simp only [sp_b0, Classical.not_not] at c5)
    obtain ⟨r, hr, rfl⟩ := iR_of hok c5
    refine rb_aload_n X (pc := 15) dX5_kind_15 rfl rfl ?_
    refine rb_iload_n X (pc := 16) dX5_kind_16 rfl rfl ?_
    refine rb_iconst (v := 0) X (pc := 17) dX5_kind_17 (by decide) ?_
    refine rc_callVi X (pc := 18) cvX5_its mX5_78 rb_ob9 (qI0 (by omega)) (by decide) rfl rfl (Nat.le_of_ble_eq_true rfl) dX5_kind_18 ?_
    refine rb_istore_n X (pc := 21) dX5_kind_21 rfl (by decide) rfl rfl ?_
    refine rb_iconst (v := 0) X (pc := 22) dX5_kind_22 (by decide) ?_
    refine rb_istore_n X (pc := 23) dX5_kind_23 rfl (by decide) rfl rfl ?_
    refine rb_sipush (v := 999) X (pc := 24) dX5_kind_24 (by decide) ?_
    refine rb_istore X (pc := 27) dX5_kind_27 (by decide) rfl rfl ?_
    refine rb_iconst (v := 0) X (pc := 29) dX5_kind_29 (by decide) ?_
    refine rb_istore X (pc := 30) dX5_kind_30 (by decide) rfl rfl ?_
    exact sp_go rfl rfl (lpX5_kind_32 hS hM hr c5 X Y 7 0 (sT σ) 0 999 (fun v => rfl) (by omega) (by omega) (Or.inl ⟨rfl, rfl, rfl⟩))
  · (try simp only [sp_b0, Classical.not_not] at c5)
    refine rb_aload_n X (pc := 8) dX5_kind_8 rfl rfl ?_
    refine rb_ldc X (pc := 9) dX5_kind_9 kX5_45 ?_
    refine rc_callVi X (pc := 11) cvX5_finds mX5_74 rb_ob9 (qX5_finds (i := 0) (by decide) (by decide)) (by decide) rfl rfl (Nat.le_of_ble_eq_true rfl) dX5_kind_11 ?_
    refine rb_iret (S := []) X (pc := 14) Y dX5_kind_14 ?_
    exact pm_f hM (by simp [r_kind, ff_0, c5])
set_option maxRecDepth 100000 in
set_option maxHeartbeats 1000000 in
theorem lpX5_beds_34 {Z : rb_Z} {G : rb_G} {σ : Sg} {h : rb_H} (hS : okS σ) (hM : MI σ (ms h (sT σ))) {q n : Nat} (hq : q < 8) (hn : n ≤ 20) (cH : iH (nI q) = true) (cN : iN (nI n) 20 = true) (X : rb_CX Z G cX5_beds 6 RX5 8) (Y : rb_RT Z G (some .int) (PM (ms h (sT σ)) (r_beds σ (nI q) (nI n)))) : ∀ fu : Nat, ∀ (i : Nat) (T1 : rb_T) (B : Nat → Int32) (fo : Int32), (∀ v, u2 T1 0 q v = u2 (sT σ) 0 q v) → i ≤ 4 → 5 ≤ i + fu → ((fo = -1 ∧ ∀ m, m < i → decide (sp_those (sp_days (u2 (sT σ) 0 q (nI m)) n) (-1) (sp_n (sp_days (u2 (sT σ) 0 q (nI m)) n)) = 0) = false) ∨ (k_beds (sT σ) q n < 4 ∧ fo = nI (k_beds (sT σ) q n))) → rb_WP Z G 6 34 [.ref (rb_ad G 9 0), .int (nI q), .int (nI n), .int (sT σ 0 q), .int fo, .int (nI i)] [] (ms (rb_row h 9 3 B) T1) := by
  intro fu
  induction fu with
  | zero => intro i T1 B fo hT hi hf hno; omega
  | succ fu ih =>
    intro i T1 B fo hT hi hf hno
    have hok := hS.1
    have en : ix (nI n) = n := nI_clamp (by omega)
    have eq1 : ix (nI q) = q := nI_clamp (by omega)
    refine rb_iload X (pc := 34) dX5_beds_34 rfl ?_
    refine rb_iconst (v := 3) X (pc := 36) dX5_beds_36 (by decide) ?_
    refine rb_icmp_gt X (pc := 37) (tgt := 92) dX5_beds_37 (by decide) (fun c37 => ?_) (fun c37 => ?_)
    · have h1 := (nI_ltI (a := 3) (by omega) (by omega)).mp c37
      obtain rfl : i = 4 := by omega
      have eR : (fo = -1 ∧ k_beds (sT σ) q n = 4) ∨ (k_beds (sT σ) q n < 4 ∧ fo = nI (k_beds (sT σ) q n)) := hno.imp (fun z => ⟨z.1, fa_first_none z.2⟩) (fun z => z)
      refine rb_aload_n X (pc := 92) dX5_beds_92 rfl rfl ?_
      refine rc_getR X (pc := 93) fX5_7 rb_ob9 rfl dX5_beds_93 ?_
      refine rb_iload_n X (pc := 96) dX5_beds_96 rfl rfl ?_
      refine rb_iconst (v := 0) X (pc := 97) dX5_beds_97 (by decide) ?_
      refine rc_callSi X (pc := 98) cvX5_partOf mX5_41 (qX5_partOf (w := 0)) (by decide) rfl rfl (Nat.le_of_ble_eq_true rfl) dX5_beds_98 ?_
      refine rb_iload_n X (pc := 101) dX5_beds_101 rfl rfl ?_
      refine rc_iast X (pc := 102) _ rb_ar9_0 (ms_p0 (by omega)) rfl (by omega) dX5_beds_102 ?_
      rw [hT, u2_self rfl]
      refine rb_iload X (pc := 103) dX5_beds_103 rfl ?_
      refine rb_if_ge X (pc := 105) (tgt := 117) dX5_beds_105 (by decide) (fun c105 => ?_) (fun c105 => ?_)
      · have e2 := eR.resolve_left (fun z => by rw [z.1] at c105; exact absurd c105 (by decide))
        have eR : r_beds σ (nI q) (nI n) = (fo, σ) := by simp [r_beds, cH, cN, en, eq1, e2.1, e2.2]
        refine rb_iload X (pc := 117) dX5_beds_117 rfl ?_
        refine rb_iret (S := []) X (pc := 119) Y dX5_beds_119 ?_
        first
        | exact pm_A hM eR
        | exact pm_Af hM eR
      · have e2 := eR.resolve_right (fun z => by rw [z.2] at c105; exact c105 (nI_pos' (by omega)))
        have eR : r_beds σ (nI q) (nI n) = (-1000000004, fnd σ 3) := by simp [r_beds, cH, cN, en, eq1, e2.2, ff_3]
        refine rb_aload_n X (pc := 108) dX5_beds_108 rfl rfl ?_
        refine rb_ldc X (pc := 109) dX5_beds_109 kX5_196 ?_
        refine rc_callVi X (pc := 111) cvX5_finds mX5_74 rb_ob9 (qX5_finds (i := 3) (by decide) (by decide)) (by decide) rfl rfl (Nat.le_of_ble_eq_true rfl) dX5_beds_111 ?_
        refine rb_goto X (pc := 114) (tgt := 119) dX5_beds_114 (by decide) ?_
        refine rb_iret (S := []) X (pc := 119) Y dX5_beds_119 ?_
        first
        | exact pm_A hM eR
        | exact pm_Af hM eR
    · have h1 : ¬ 3 < i := fun z => c37 ((nI_ltI (a := 3) (by omega) (by omega)).mpr z)
      have hk2 : sp_ok (u2 (sT σ) 0 q (nI i)) := ok_u0 hok ⟨i, by omega, rfl⟩
      have hkd := sp_days_ok hk2 n
      refine rb_iload X (pc := 40) dX5_beds_40 rfl ?_
      refine rb_if_ge X (pc := 42) (tgt := 92) dX5_beds_42 (by decide) (fun c42 => ?_) (fun c42 => ?_)
      · have eR : (fo = -1 ∧ k_beds (sT σ) q n = 4) ∨ (k_beds (sT σ) q n < 4 ∧ fo = nI (k_beds (sT σ) q n)) := Or.inr (hno.resolve_left (fun z => by rw [z.1] at c42; exact absurd c42 (by decide)))
        refine rb_aload_n X (pc := 92) dX5_beds_92 rfl rfl ?_
        refine rc_getR X (pc := 93) fX5_7 rb_ob9 rfl dX5_beds_93 ?_
        refine rb_iload_n X (pc := 96) dX5_beds_96 rfl rfl ?_
        refine rb_iconst (v := 0) X (pc := 97) dX5_beds_97 (by decide) ?_
        refine rc_callSi X (pc := 98) cvX5_partOf mX5_41 (qX5_partOf (w := 0)) (by decide) rfl rfl (Nat.le_of_ble_eq_true rfl) dX5_beds_98 ?_
        refine rb_iload_n X (pc := 101) dX5_beds_101 rfl rfl ?_
        refine rc_iast X (pc := 102) _ rb_ar9_0 (ms_p0 (by omega)) rfl (by omega) dX5_beds_102 ?_
        rw [hT, u2_self rfl]
        refine rb_iload X (pc := 103) dX5_beds_103 rfl ?_
        refine rb_if_ge X (pc := 105) (tgt := 117) dX5_beds_105 (by decide) (fun c105 => ?_) (fun c105 => ?_)
        · have e2 := eR.resolve_left (fun z => by rw [z.1] at c105; exact absurd c105 (by decide))
          have eR : r_beds σ (nI q) (nI n) = (fo, σ) := by simp [r_beds, cH, cN, en, eq1, e2.1, e2.2]
          refine rb_iload X (pc := 117) dX5_beds_117 rfl ?_
          refine rb_iret (S := []) X (pc := 119) Y dX5_beds_119 ?_
          first
          | exact pm_A hM eR
          | exact pm_Af hM eR
        · have e2 := eR.resolve_right (fun z => by rw [z.2] at c105; exact c105 (nI_pos' (by omega)))
          have eR : r_beds σ (nI q) (nI n) = (-1000000004, fnd σ 3) := by simp [r_beds, cH, cN, en, eq1, e2.2, ff_3]
          refine rb_aload_n X (pc := 108) dX5_beds_108 rfl rfl ?_
          refine rb_ldc X (pc := 109) dX5_beds_109 kX5_196 ?_
          refine rc_callVi X (pc := 111) cvX5_finds mX5_74 rb_ob9 (qX5_finds (i := 3) (by decide) (by decide)) (by decide) rfl rfl (Nat.le_of_ble_eq_true rfl) dX5_beds_111 ?_
          refine rb_goto X (pc := 114) (tgt := 119) dX5_beds_114 (by decide) ?_
          refine rb_iret (S := []) X (pc := 119) Y dX5_beds_119 ?_
          first
          | exact pm_A hM eR
          | exact pm_Af hM eR
      · have hn2 : fo = -1 ∧ ∀ m, m < i → decide (sp_those (sp_days (u2 (sT σ) 0 q (nI m)) n) (-1) (sp_n (sp_days (u2 (sT σ) 0 q (nI m)) n)) = 0) = false := hno.resolve_right (fun z => by rw [z.2] at c42; exact c42 (nI_pos' (by omega)))
        refine rb_aload_n X (pc := 45) dX5_beds_45 rfl rfl ?_
        refine rc_getR X (pc := 46) fX5_7 rb_ob9 rfl dX5_beds_46 ?_
        refine rb_iload_n X (pc := 49) dX5_beds_49 rfl rfl ?_
        refine rb_iconst (v := 0) X (pc := 50) dX5_beds_50 (by decide) ?_
        refine rc_callSi X (pc := 51) cvX5_partOf mX5_41 (qX5_partOf (w := 0)) (by decide) rfl rfl (Nat.le_of_ble_eq_true rfl) dX5_beds_51 ?_
        refine rb_iload X (pc := 54) dX5_beds_54 rfl ?_
        refine rc_iast X (pc := 56) _ rb_ar9_0 (ms_p0 (by omega)) rfl (by omega) dX5_beds_56 ?_
        rw [hT]
        refine rb_aload_n X (pc := 57) dX5_beds_57 rfl rfl ?_
        refine rc_callVv X (pc := 58) cvX5_laysAside mX5_184 rb_ob9 qLa (by decide) rfl rfl (Nat.le_of_ble_eq_true rfl) dX5_beds_58 ?_
        rw [mo_row]
        refine rb_aload_n X (pc := 61) dX5_beds_61 rfl rfl ?_
        refine rb_iload_n X (pc := 62) dX5_beds_62 rfl rfl ?_
        refine rc_callVv X (pc := 63) cvX5_daysGo mX5_168 rb_ob9 (qX5_daysGo hk2 (by omega)) (by decide) rfl rfl (Nat.le_of_ble_eq_true rfl) dX5_beds_63 ?_
        refine rb_aload_n X (pc := 66) dX5_beds_66 rfl rfl ?_
        refine rb_aload_n X (pc := 67) dX5_beds_67 rfl rfl ?_
        refine rb_iconst (v := (-1)) X (pc := 68) dX5_beds_68 (by decide) ?_
        refine rc_callVi X (pc := 69) cvX5_thoseAt mX5_87 rb_ob9 (qX5_thoseAt hkd.1 hkd.2.1 _) (by decide) rfl rfl (Nat.le_of_ble_eq_true rfl) dX5_beds_69 ?_
        refine rb_if_ne X (pc := 72) (tgt := 80) dX5_beds_72 (by decide) (fun c72 => ?_) (fun c72 => ?_)
        · refine rb_iconst (v := (-1)) X (pc := 80) dX5_beds_80 (by decide) ?_
          refine rc_callVi X (pc := 81) cvX5_takesBack mX5_187 rb_ob9 (qTb mo_3) (by decide) rfl rfl (Nat.le_of_ble_eq_true rfl) dX5_beds_81 ?_
          refine rb_istore X (pc := 84) dX5_beds_84 (by decide) rfl rfl ?_
          refine rb_iinc X (pc := 86) dX5_beds_86 rfl (sp_inc _) (by decide) rfl rfl ?_
          refine rb_goto X (pc := 89) (tgt := 34) dX5_beds_89 (by decide) ?_
          first
          | exact sp_go rfl rfl (ih (i + 1) _ _ (-1) (fun v => u2_u2) (by omega) (by omega) (Or.inl ⟨rfl, fun m hm => by
              by_cases e : m = i
              · subst e; exact decide_eq_false c72
              · exact hn2.2 m (by omega)⟩))
          | (have hk : k_beds (sT σ) q n = i := fa_first_eq (by omega) (decide_eq_true (by simpa using c72)) hn2.2
             exact sp_go rfl rfl (ih (i + 1) _ _ (nI i) (fun v => u2_u2) (by omega) (by omega) (Or.inr ⟨by omega, by rw [hk]⟩)))
        · refine rb_iload X (pc := 75) dX5_beds_75 rfl ?_
          refine rb_goto X (pc := 77) (tgt := 81) dX5_beds_77 (by decide) ?_
          refine rc_callVi X (pc := 81) cvX5_takesBack mX5_187 rb_ob9 (qTb mo_3) (by decide) rfl rfl (Nat.le_of_ble_eq_true rfl) dX5_beds_81 ?_
          refine rb_istore X (pc := 84) dX5_beds_84 (by decide) rfl rfl ?_
          refine rb_iinc X (pc := 86) dX5_beds_86 rfl (sp_inc _) (by decide) rfl rfl ?_
          refine rb_goto X (pc := 89) (tgt := 34) dX5_beds_89 (by decide) ?_
          first
          | exact sp_go rfl rfl (ih (i + 1) _ _ (-1) (fun v => u2_u2) (by omega) (by omega) (Or.inl ⟨rfl, fun m hm => by
              by_cases e : m = i
              · subst e; exact decide_eq_false c72
              · exact hn2.2 m (by omega)⟩))
          | (have hk : k_beds (sT σ) q n = i := fa_first_eq (by omega) (decide_eq_true (by simpa using c72)) hn2.2
             exact sp_go rfl rfl (ih (i + 1) _ _ (nI i) (fun v => u2_u2) (by omega) (by omega) (Or.inr ⟨by omega, by rw [hk]⟩)))
set_option maxRecDepth 100000 in
set_option maxHeartbeats 1000000 in
theorem qX5_beds {G : rb_G} {σ : Sg} {h : rb_H} (hS : okS σ) (hM : MI σ h)  (a n0 : Int32) : rb_M G 8 yX5_beds cX5_beds 6 (some .int) [.ref (rb_ad G 9 0), .int a, .int n0] (h) (PM h (r_beds σ a n0)) := by
  refine rb_meth (L := [.ref (rb_ad G 9 0), .int a, .int n0, .null, .null, .null]) (by decide) (Nat.le_of_ble_eq_true rfl) rfl (fun Z X Y => ?_)
  have X : rb_CX Z G cX5_beds 6 RX5 8 := X
  obtain ⟨h, rfl⟩ : ∃ h0, h = ms h0 (sT σ) := ⟨h, (rb_row_self hM.1).symm⟩
  have hok := hS.1
  have hn4 := hok.1
  have hn10 := hok.2.1
  refine rb_iload_n X (pc := 0) dX5_beds_0 rfl rfl ?_
  refine rc_callSi X (pc := 1) cvX5_isHouse mX5_67 (qX5_isHouse _) (by decide) rfl rfl (Nat.le_of_ble_eq_true rfl) dX5_beds_1 ?_
  refine rb_if_eq X (pc := 4) (tgt := 14) dX5_beds_4 (by decide) (fun c4 => ?_) (fun c4 => ?_)
  · (try simp only [sp_b0, Classical.not_not] at c4)
    refine rb_aload_n X (pc := 14) dX5_beds_14 rfl rfl ?_
    refine rb_ldc X (pc := 15) dX5_beds_15 kX5_45 ?_
    refine rc_callVi X (pc := 17) cvX5_finds mX5_74 rb_ob9 (qX5_finds (i := 0) (by decide) (by decide)) (by decide) rfl rfl (Nat.le_of_ble_eq_true rfl) dX5_beds_17 ?_
    refine rb_iret (S := []) X (pc := 20) Y dX5_beds_20 ?_
    exact pm_f hM (by simp [r_beds, ff_0, *]; done)
  · (try simp only [sp_b0, Classical.not_not] at c4)
    refine rb_iload_n X (pc := 7) dX5_beds_7 rfl rfl ?_
    refine rc_callSi X (pc := 8) cvX5_isSoon mX5_203 (qX5_isSoon _) (by decide) rfl rfl (Nat.le_of_ble_eq_true rfl) dX5_beds_8 ?_
    refine rb_if_ne X (pc := 11) (tgt := 21) dX5_beds_11 (by decide) (fun c11 => ?_) (fun c11 => ?_)
    · (try simp only [sp_b0, Classical.not_not] at c11)
      obtain ⟨q, hq, rfl⟩ := iH_of c4
      have eq1 : ix (nI q) = q := nI_clamp (by omega)
      obtain ⟨n, hn1, rfl⟩ := iN_of (n := 20) (by decide) c11
      refine rb_aload_n X (pc := 21) dX5_beds_21 rfl rfl ?_
      refine rb_iload_n X (pc := 22) dX5_beds_22 rfl rfl ?_
      refine rb_iconst (v := 0) X (pc := 23) dX5_beds_23 (by decide) ?_
      refine rc_callVi X (pc := 24) cvX5_has mX5_84 rb_ob9 (qH0 (by omega)) (by decide) rfl rfl (Nat.le_of_ble_eq_true rfl) dX5_beds_24 ?_
      refine rb_istore_n X (pc := 27) dX5_beds_27 rfl (by decide) rfl rfl ?_
      refine rb_iconst (v := (-1)) X (pc := 28) dX5_beds_28 (by decide) ?_
      refine rb_istore X (pc := 29) dX5_beds_29 (by decide) rfl rfl ?_
      refine rb_iconst (v := 0) X (pc := 31) dX5_beds_31 (by decide) ?_
      refine rb_istore X (pc := 32) dX5_beds_32 (by decide) rfl rfl ?_
      exact sp_go rfl (by rw [mo_self]) (lpX5_beds_34 hS hM hq hn1 c4 c11 X Y 5 0 (sT σ) (h.1 9 3) (-1) (fun v => rfl) (by omega) (by omega) (Or.inl ⟨rfl, fun m hm => absurd hm (by omega)⟩))
    · (try simp only [sp_b0, Classical.not_not] at c11)
      refine rb_aload_n X (pc := 14) dX5_beds_14 rfl rfl ?_
      refine rb_ldc X (pc := 15) dX5_beds_15 kX5_45 ?_
      refine rc_callVi X (pc := 17) cvX5_finds mX5_74 rb_ob9 (qX5_finds (i := 0) (by decide) (by decide)) (by decide) rfl rfl (Nat.le_of_ble_eq_true rfl) dX5_beds_17 ?_
      refine rb_iret (S := []) X (pc := 20) Y dX5_beds_20 ?_
      exact pm_f hM (by simp [r_beds, ff_0, *]; done)
