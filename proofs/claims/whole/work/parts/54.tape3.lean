/-! the tape tells a town: heap with the hand at c, the town ahead T -/
abbrev tp (h : rb_H) (M : rb_T) (n c : Nat) (T : rb_T) : rb_H := tw (rb_st h 3 (hd M n c)) 1 T
theorem rb_st_sw {h : rb_H} {o o' : Nat} {A B : rb_T} (hn : o ≠ o') : rb_st (rb_st h o A) o' B = rb_st (rb_st h o' B) o A := by
  refine Prod.ext ?_ rfl
  funext x
  simp only [rb_st, va_up]
  by_cases e : x = o
  · subst e; simp [hn]
  · by_cases e2 : x = o'
    · subst e2; simp [e]
    · simp [e, e2]
theorem tp_eq {h : rb_H} {M : rb_T} {n c : Nat} {T : rb_T} : tp h M n c T = rb_st (tw h 1 T) 3 (hd M n c) := rb_st_sw (by decide)
theorem t4_5 {h : rb_H} {M : rb_T} {n c : Nat} {T : rb_T} : (tp h M n c T).1 3 5 0 = tV (M 0) n c := rfl
theorem t4_2 {h : rb_H} {M : rb_T} {n c : Nat} {T : rb_T} : (tp h M n c T).1 3 2 0 = tS (M 0) n c := rfl
theorem t4_3 {h : rb_H} {M : rb_T} {n c : Nat} {T : rb_T} : (tp h M n c T).1 3 3 0 = nI c := rfl
theorem qN {G : rb_G} {h : rb_H} {M : rb_T} {n c : Nat} {T : rb_T} (hn : n ≤ 120) (hM : M 1 0 = nI n) (hc : c ≤ n) : rb_M G 1 yX2_nextToken cX2_nextToken 2 none [.ref (rb_ad G 3 0)] (tp h M n c T) (rb_F none (tp h M n (tN (M 0) n c) T)) := by
  rw [tp_eq, tp_eq]; exact qX2_nextToken hn hM (tE_le hc).2
theorem qW {G : rb_G} {h : rb_H} {M : rb_T} {n c : Nat} {T : rb_T} (hn : n ≤ 120) (hc : c ≤ n) {i : Nat} (hi : i < 14) : rb_M G 4 yX2_isWord cX2_isWord 3 (some .boolean) [.ref (rb_ad G 3 0), .ref (G.2.2.2.1 i)] (tp h M n c T) (rb_F (some (.int (if tW (M 0) n c i then 1 else 0))) (tp h M n c T)) := by
  rw [tp_eq]; exact qX2_isWord hn hc hi
theorem qU {G : rb_G} {h : rb_H} {M : rb_T} {n c : Nat} {T : rb_T} (m : Int32) : rb_M G 0 yX2_isNumber cX2_isNumber 2 (some .boolean) [.ref (rb_ad G 3 0), .int m] (tp h M n c T) (rb_F (some (.int (if tM (M 0) n c m then 1 else 0))) (tp h M n c T)) := by
  rw [tp_eq]; exact qX2_isNumber m
set_option maxRecDepth 100000 in
set_option maxHeartbeats 1000000 in
theorem qX2_passNumber {G : rb_G} {h : rb_H} {M : rb_T} {n c : Nat} {T : rb_T} (hn : n ≤ 120) (hM : M 1 0 = nI n) (hc : c ≤ n) (m : Int32) : rb_M G 2 yX2_passNumber cX2_passNumber 3 (some .int) [.ref (rb_ad G 3 0), .int m] (tp h M n c T) (rb_F (some (.int (if tM (M 0) n c m then tV (M 0) n c else -1))) (tp h M n (if tM (M 0) n c m then tN (M 0) n c else c) T)) := by
  refine rb_meth (L := [.ref (rb_ad G 3 0), .int m, .null]) (by decide) (Nat.le_of_ble_eq_true rfl) rfl (fun Z X Y => ?_)
  have X : rb_CX Z G cX2_passNumber 3 RX2 2 := X
  refine rb_aload_n X (pc := 0) dX2_passNumber_0 rfl rfl ?_
  refine rb_iload_n X (pc := 1) dX2_passNumber_1 rfl rfl ?_
  refine rc_callVi X (pc := 2) cvX2_isNumber mX2_106 rb_ob3 (qU _) (by decide) rfl rfl (Nat.le_of_ble_eq_true rfl) dX2_passNumber_2 ?_
  refine rb_if_ne X (pc := 5) (tgt := 10) dX2_passNumber_5 (by decide) (fun c5 => ?_) (fun c5 => ?_)
  · (try simp only [sp_b0, Classical.not_not] at c5)
    refine rb_aload_n X (pc := 10) dX2_passNumber_10 rfl rfl ?_
    refine rc_getI X (pc := 11) fX2_28 rb_ob3 rfl t4_5 dX2_passNumber_11 ?_
    refine rb_istore_n X (pc := 14) dX2_passNumber_14 rfl (by decide) rfl rfl ?_
    refine rb_aload_n X (pc := 15) dX2_passNumber_15 rfl rfl ?_
    refine rc_callVv X (pc := 16) cvX2_nextToken mX2_31 rb_ob3 (qN hn hM (by first | omega | assumption)) (by decide) rfl rfl (Nat.le_of_ble_eq_true rfl) dX2_passNumber_16 ?_
    refine rb_iload_n X (pc := 19) dX2_passNumber_19 rfl rfl ?_
    refine rb_iret (S := []) X (pc := 20) Y dX2_passNumber_20 ?_
    exact ⟨by rw [if_pos c5], by rw [if_pos c5]⟩
  · (try simp only [sp_b0, Classical.not_not] at c5)
    refine rb_iconst (v := (-1)) X (pc := 8) dX2_passNumber_8 (by decide) ?_
    refine rb_iret (S := []) X (pc := 9) Y dX2_passNumber_9 ?_
    exact ⟨by rw [if_neg c5], by rw [if_neg c5]⟩
set_option maxRecDepth 100000 in
set_option maxHeartbeats 1000000 in
theorem qX2_tellPart {G : rb_G} {h : rb_H} {M : rb_T} {n c : Nat} {T : rb_T} (hn : n ≤ 120) (hM : M 1 0 = nI n) (hc : c ≤ n) {i j q N : Nat} (hi : i < 14) (a : rb_ar 1 j 0 N) (hN : N < 2 ^ 31) (hj3 : j ≠ 3) (hj4 : j ≠ 4) (hj9 : j ≠ 9) (hq : q < N) (m : Int32) : rb_M G 5 yX2_tellPart cX2_tellPart 5 (some .boolean) [.ref (rb_ad G 3 0), .ref (G.2.2.2.1 i), .int m, .ref (rb_ad G 1 (j + 1)), .int (nI q)] (tp h M n c T) (rb_F (some (.int (if (p_part (M 0) n i m j q c T).1 then 1 else 0))) (tp h M n (p_part (M 0) n i m j q c T).2.1 (p_part (M 0) n i m j q c T).2.2)) := by
  refine rb_meth (L := [.ref (rb_ad G 3 0), .ref (G.2.2.2.1 i), .int m, .ref (rb_ad G 1 (j + 1)), .int (nI q)]) (by decide) (Nat.le_of_ble_eq_true rfl) rfl (fun Z X Y => ?_)
  have X : rb_CX Z G cX2_tellPart 5 RX2 5 := X
  have hN1 := tN_le (f := M 0) hc
  refine rb_aload_n X (pc := 0) dX2_tellPart_0 rfl rfl ?_
  refine rb_aload_n X (pc := 1) dX2_tellPart_1 rfl rfl ?_
  refine rc_callVi X (pc := 2) cvX2_isWord mX2_40 rb_ob3 (qW hn hc hi) (by decide) rfl rfl (Nat.le_of_ble_eq_true rfl) dX2_tellPart_2 ?_
  refine rb_if_ne X (pc := 5) (tgt := 10) dX2_tellPart_5 (by decide) (fun c5 => ?_) (fun c5 => ?_)
  · (try simp only [sp_b0, Classical.not_not] at c5)
    refine rb_aload_n X (pc := 10) dX2_tellPart_10 rfl rfl ?_
    refine rc_callVv X (pc := 11) cvX2_nextToken mX2_31 rb_ob3 (qN hn hM (by first | omega | assumption)) (by decide) rfl rfl (Nat.le_of_ble_eq_true rfl) dX2_tellPart_11 ?_
    refine rb_aload_n X (pc := 14) dX2_tellPart_14 rfl rfl ?_
    refine rb_iload_n X (pc := 15) dX2_tellPart_15 rfl rfl ?_
    refine rc_callVi X (pc := 16) cvX2_isNumber mX2_106 rb_ob3 (qU _) (by decide) rfl rfl (Nat.le_of_ble_eq_true rfl) dX2_tellPart_16 ?_
    refine rb_if_ne X (pc := 19) (tgt := 24) dX2_tellPart_19 (by decide) (fun c19 => ?_) (fun c19 => ?_)
    · (try simp only [sp_b0, Classical.not_not] at c19)
      refine rb_aload_n X (pc := 24) dX2_tellPart_24 rfl rfl ?_
      refine rb_iload X (pc := 25) dX2_tellPart_25 rfl ?_
      refine rb_aload_n X (pc := 27) dX2_tellPart_27 rfl rfl ?_
      refine rc_getI X (pc := 28) fX2_28 rb_ob3 rfl t4_5 dX2_tellPart_28 ?_
      refine rc_iast X (pc := 31) q a (tw_u hj3 hj4 hj9) rfl hq (hn := hN) dX2_tellPart_31 ?_
      refine rb_aload_n X (pc := 32) dX2_tellPart_32 rfl rfl ?_
      refine rc_callVv X (pc := 33) cvX2_nextToken mX2_31 rb_ob3 (qN hn hM hN1.2) (by decide) rfl rfl (Nat.le_of_ble_eq_true rfl) dX2_tellPart_33 ?_
      refine rb_iconst (v := 1) X (pc := 36) dX2_tellPart_36 (by decide) ?_
      refine rb_zret (S := []) X (pc := 37) Y dX2_tellPart_37 rfl ?_
      exact ⟨by rw [p_part, if_pos c5, if_pos c19]; rfl, by rw [p_part, if_pos c5, if_pos c19]⟩
    · (try simp only [sp_b0, Classical.not_not] at c19)
      refine rb_iconst (v := 0) X (pc := 22) dX2_tellPart_22 (by decide) ?_
      refine rb_zret (S := []) X (pc := 23) Y dX2_tellPart_23 rfl ?_
      exact ⟨by rw [p_part, if_pos c5, if_neg c19]; rfl, by rw [p_part, if_pos c5, if_neg c19]⟩
  · (try simp only [sp_b0, Classical.not_not] at c5)
    refine rb_iconst (v := 1) X (pc := 8) dX2_tellPart_8 (by decide) ?_
    refine rb_zret (S := []) X (pc := 9) Y dX2_tellPart_9 rfl ?_
    exact ⟨by rw [p_part, if_neg c5]; rfl, by rw [p_part, if_neg c5]⟩
