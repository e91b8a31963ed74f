theorem p_fin {h : rb_H} {M : rb_T} {n : Nat} {p : p_R} (q : p_R) {x : Int32} (e : p = q) (hx : x = if q.1 then 1 else 0) : rb_F (some (.int (if p.1 then 1 else 0))) (tp h M n p.2.1 p.2.2) (some (.int x)) (tp h M n q.2.1 q.2.2) := by subst e; subst hx; exact ⟨rfl, rfl⟩
theorem p_th_t {p : p_R} {k : Nat → rb_T → p_R} (h : p.1 = true) : p_th p k = k p.2.1 p.2.2 := if_pos h
theorem p_th_f {p : p_R} {k : Nat → rb_T → p_R} (h : ¬ p.1 = true) : p_th p k = p := if_neg h
theorem sp_nm_i {i : Nat} (h : i < 6) : sp_nm (nI i) = i := by
  rcases (show i = 0 ∨ i = 1 ∨ i = 2 ∨ i = 3 ∨ i = 4 ∨ i = 5 by omega) with rfl | rfl | rfl | rfl | rfl | rfl <;> decide
section PQ
variable {f : Nat → Int32} {n a : Nat} {T : rb_T}
theorem p_th_g {Q : p_R → Prop} {p : p_R} {k : Nat → rb_T → p_R} (h1 : Q p) (h2 : Q p → Q (k p.2.1 p.2.2)) : Q (p_th p k) := by
  unfold p_th
  split
  · exact h2 h1
  · exact h1
def p_good (n : Nat) (p : p_R) : Prop := p.2.1 ≤ n ∧ sp_ok p.2.2
theorem p_true_g (ha : a ≤ n) (h : sp_ok T) : p_good n (p_true f n a T) := by
  unfold p_true
  split
  · exact ⟨(tN_le ha).2, sp_bt_ok h⟩
  · exact ⟨ha, h⟩
theorem p_house_g (ha : a ≤ n) (h : sp_ok T) : p_good n (p_house f n a T) := by
  unfold p_house
  split
  · refine p_th_g (Q := p_good n) (p_th_g (Q := p_good n) ⟨p_part_le (tN_le ha).2, p_part_ok (m := 3) (by decide) h (fun v hv => ok_u0 h hv)⟩ (fun g => ⟨p_part_le g.1, p_part_ok (m := 999) (by decide) g.2 (fun v hv => ok_u1 g.2 hv)⟩)) (fun g => ⟨p_part_le g.1, p_part_ok (m := 9) (by decide) g.2 (fun v hv => ok_u2r g.2 hv)⟩)
  · exact ⟨ha, h⟩
theorem p_rum_g {k : Int32} (ha : a ≤ n) (h : sp_ok T) (hk : ∃ q, q < 6 ∧ k = nI q) : p_good n (p_rum f n k a T) := by
  unfold p_rum
  split
  · exact ⟨ha, h⟩
  · rename_i c
    have hnf : sp_n T < 10 := by
      rcases Nat.lt_or_ge (sp_n T) 10 with z | z
      · exact z
      · exact absurd (by rw [h.1]; exact (nI_leI (a := 10) (by omega) (by have := h.2.1; omega)).mpr z) c
    have h1 := (tN_le (f := f) ha).2
    have h2 := (tN_le (f := f) h1).2
    split
    · unfold p_rum2
      split
      · rename_i c2
        obtain ⟨v, hv, ev⟩ := tM_of (m := 15) (by decide) c2
        have hA : sp_ok (sp_add T k (tV f n (tN f n (tN f n a))) 10) := sp_add_ok h hnf hk ⟨v, by omega, ev⟩ ⟨10, by omega, rfl⟩
        exact p_th_g (Q := p_good n) ⟨p_part_le (tN_le h2).2, p_part_ok (m := 99) (by decide) hA (fun v hv => ok_u7 hA hv)⟩ (fun g => ⟨p_lod_le g.1, p_lod_ok g.2⟩)
      · exact ⟨h2, h⟩
    · exact ⟨h1, h⟩
theorem p_item_g (ha : a ≤ n) (h : sp_ok T) : p_good n (p_item f n a T) := by
  unfold p_item
  split
  · exact p_house_g (tN_le ha).2 h
  · split
    · exact p_true_g (tN_le ha).2 h
    · split
      · rename_i c; exact p_rum_g ha h ⟨_, c, rfl⟩
      · exact ⟨ha, h⟩
end PQ
set_option maxRecDepth 100000 in
set_option maxHeartbeats 1000000 in
theorem qX2_tellHouse {G : rb_G} {h : rb_H} {M : rb_T} {n c : Nat} {T : rb_T} (hn : n ≤ 120) (hM : M 1 0 = nI n) (hc : c ≤ n) (hok : sp_ok T) : rb_M G 6 yX2_tellHouse cX2_tellHouse 3 (some .boolean) [.ref (rb_ad G 3 0), .ref (rb_ad G 1 0)] (tp h M n c T) (rb_F (some (.int (if (p_house (M 0) n (tN (M 0) n c) T).1 then 1 else 0))) (tp h M n (p_house (M 0) n (tN (M 0) n c) T).2.1 (p_house (M 0) n (tN (M 0) n c) T).2.2)) := by
  refine rb_meth (L := [.ref (rb_ad G 3 0), .ref (rb_ad G 1 0), .null]) (by decide) (Nat.le_of_ble_eq_true rfl) rfl (fun Z X Y => ?_)
  have X : rb_CX Z G cX2_tellHouse 3 RX2 6 := X
  have hN1 := tN_le (f := M 0) hc
  have hN2 := tN_le (f := M 0) hN1.2
  refine rb_aload_n X (pc := 0) dX2_tellHouse_0 rfl rfl ?_
  refine rc_callVv X (pc := 1) cvX2_nextToken mX2_31 rb_ob3 (qN hn hM (by first | omega | assumption)) (by decide) rfl rfl (Nat.le_of_ble_eq_true rfl) dX2_tellHouse_1 ?_
  refine rb_aload_n X (pc := 4) dX2_tellHouse_4 rfl rfl ?_
  refine rb_bipush (v := 7) X (pc := 5) dX2_tellHouse_5 (by decide) ?_
  refine rc_callVi X (pc := 7) cvX2_passNumber mX2_62 rb_ob3 (qX2_passNumber hn hM hN1.2 _) (by decide) rfl rfl (Nat.le_of_ble_eq_true rfl) dX2_tellHouse_7 ?_
  refine rb_istore_n X (pc := 10) dX2_tellHouse_10 rfl (by decide) rfl rfl ?_
  refine rb_iload_n X (pc := 11) dX2_tellHouse_11 rfl rfl ?_
  refine rb_if_lt X (pc := 12) (tgt := 67) dX2_tellHouse_12 (by decide) (fun c12 => ?_) (fun c12 => ?_)
  · have hm : ¬ tM (M 0) n (tN (M 0) n c) 7 = true := by
      intro z
      obtain ⟨v, hv, ev⟩ := tM_of (m := 7) (by decide) z
      rw [if_pos z, ev] at c12
      exact absurd c12 (nI_pos (by omega))
    rw [if_neg hm, if_neg hm]
    have eR : p_house (M 0) n (tN (M 0) n c) T = (false, (tN (M 0) n c), T) := by rw [p_house, if_neg hm]
    have eX : (0 : Int32) = if ((false, (tN (M 0) n c), T)).1 then 1 else 0 := rfl
    refine rb_iconst (v := 0) X (pc := 67) dX2_tellHouse_67 (by decide) ?_
    refine rb_zret (S := []) X (pc := 68) Y dX2_tellHouse_68 rfl ?_
    have zz := p_fin (h := h) (M := M) (n := n) _ eR eX
    exact zz
  · have hm : tM (M 0) n (tN (M 0) n c) 7 = true := by
      by_cases z : tM (M 0) n (tN (M 0) n c) 7 = true
      · exact z
      · rw [if_neg z] at c12; exact absurd c12 (by decide)
    obtain ⟨v, hv, ev⟩ := tM_of (m := 7) (by decide) hm
    rw [if_pos hm, if_pos hm]
    have ei : ix (tV (M 0) n (tN (M 0) n c)) = v := by rw [ev]; exact nI_clamp (by omega)
    rw [ev]
    have e : p_house (M 0) n (tN (M 0) n c) T = p_th (p_th (p_part (M 0) n 8 3 0 v (tN (M 0) n (tN (M 0) n c)) T) (p_part (M 0) n 9 999 1 v)) (p_part (M 0) n 10 9 2 v) := by rw [p_house, if_pos hm, ei]
    refine rb_aload_n X (pc := 15) dX2_tellHouse_15 rfl rfl ?_
    refine rb_ldcS X (pc := 16) 8 (by decide) rfl rfl dX2_tellHouse_16 ?_
    refine rb_iconst (v := 3) X (pc := 18) dX2_tellHouse_18 (by decide) ?_
    refine rb_aload_n X (pc := 19) dX2_tellHouse_19 rfl rfl ?_
    refine rc_getR X (pc := 20) fX2_68 (rb_obT (t := 1) (by decide)) rfl dX2_tellHouse_20 ?_
    refine rb_iload_n X (pc := 23) dX2_tellHouse_23 rfl rfl ?_
    refine rc_callVi X (pc := 24) cvX2_tellPart mX2_72 rb_ob3 (qX2_tellPart hn hM hN2.2 (i := 8) (by decide) (rb_arT0 (t := 1) (by decide)) (by decide) (by decide) (by decide) (by decide) (by omega) 3) (by decide) rfl rfl (Nat.le_of_ble_eq_true rfl) dX2_tellHouse_24 ?_
    refine rb_if_eq X (pc := 27) (tgt := 67) dX2_tellHouse_27 (by decide) (fun c27 => ?_) (fun c27 => ?_)
    · (try simp only [sp_b0, Classical.not_not] at c27)
      have eR : p_house (M 0) n (tN (M 0) n c) T = (p_part (M 0) n 8 3 0 v (tN (M 0) n (tN (M 0) n c)) T) := by rw [e, p_th_f c27, p_th_f c27]
      have eX : (0 : Int32) = if ((p_part (M 0) n 8 3 0 v (tN (M 0) n (tN (M 0) n c)) T)).1 then 1 else 0 := by rw [if_neg c27]
      refine rb_iconst (v := 0) X (pc := 67) dX2_tellHouse_67 (by decide) ?_
      refine rb_zret (S := []) X (pc := 68) Y dX2_tellHouse_68 rfl ?_
      have zz := p_fin (h := h) (M := M) (n := n) _ eR eX
      exact zz
    · (try simp only [sp_b0, Classical.not_not] at c27)
      refine rb_aload_n X (pc := 30) dX2_tellHouse_30 rfl rfl ?_
      refine rb_ldcS X (pc := 31) 9 (by decide) rfl rfl dX2_tellHouse_31 ?_
      refine rb_sipush (v := 999) X (pc := 33) dX2_tellHouse_33 (by decide) ?_
      refine rb_aload_n X (pc := 36) dX2_tellHouse_36 rfl rfl ?_
      refine rc_getR X (pc := 37) fX2_78 (rb_obT (t := 1) (by decide)) rfl dX2_tellHouse_37 ?_
      refine rb_iload_n X (pc := 40) dX2_tellHouse_40 rfl rfl ?_
      refine rc_callVi X (pc := 41) cvX2_tellPart mX2_72 rb_ob3 (qX2_tellPart hn hM (p_part_le hN2.2) (i := 9) (by decide) (rb_arT1 (t := 1) (by decide)) (by decide) (by decide) (by decide) (by decide) (by omega) 999) (by decide) rfl rfl (Nat.le_of_ble_eq_true rfl) dX2_tellHouse_41 ?_
      refine rb_if_eq X (pc := 44) (tgt := 67) dX2_tellHouse_44 (by decide) (fun c44 => ?_) (fun c44 => ?_)
      · (try simp only [sp_b0, Classical.not_not] at c44)
        have eR : p_house (M 0) n (tN (M 0) n c) T = (p_part (M 0) n 9 999 1 v (p_part (M 0) n 8 3 0 v (tN (M 0) n (tN (M 0) n c)) T).2.1 (p_part (M 0) n 8 3 0 v (tN (M 0) n (tN (M 0) n c)) T).2.2) := by rw [e, p_th_t c27, p_th_f c44]
        have eX : (0 : Int32) = if ((p_part (M 0) n 9 999 1 v (p_part (M 0) n 8 3 0 v (tN (M 0) n (tN (M 0) n c)) T).2.1 (p_part (M 0) n 8 3 0 v (tN (M 0) n (tN (M 0) n c)) T).2.2)).1 then 1 else 0 := by rw [if_neg c44]
        refine rb_iconst (v := 0) X (pc := 67) dX2_tellHouse_67 (by decide) ?_
        refine rb_zret (S := []) X (pc := 68) Y dX2_tellHouse_68 rfl ?_
        have zz := p_fin (h := h) (M := M) (n := n) _ eR eX
        exact zz
      · (try simp only [sp_b0, Classical.not_not] at c44)
        refine rb_aload_n X (pc := 47) dX2_tellHouse_47 rfl rfl ?_
        refine rb_ldcS X (pc := 48) 10 (by decide) rfl rfl dX2_tellHouse_48 ?_
        refine rb_bipush (v := 9) X (pc := 50) dX2_tellHouse_50 (by decide) ?_
        refine rb_aload_n X (pc := 52) dX2_tellHouse_52 rfl rfl ?_
        refine rc_getR X (pc := 53) fX2_83 (rb_obT (t := 1) (by decide)) rfl dX2_tellHouse_53 ?_
        refine rb_iload_n X (pc := 56) dX2_tellHouse_56 rfl rfl ?_
        refine rc_callVi X (pc := 57) cvX2_tellPart mX2_72 rb_ob3 (qX2_tellPart hn hM (p_part_le (p_part_le hN2.2)) (i := 10) (by decide) (rb_arT2 (t := 1) (by decide)) (by decide) (by decide) (by decide) (by decide) (by omega) 9) (by decide) rfl rfl (Nat.le_of_ble_eq_true rfl) dX2_tellHouse_57 ?_
        refine rb_if_eq X (pc := 60) (tgt := 67) dX2_tellHouse_60 (by decide) (fun c60 => ?_) (fun c60 => ?_)
        · (try simp only [sp_b0, Classical.not_not] at c60)
          have eR : p_house (M 0) n (tN (M 0) n c) T = (p_part (M 0) n 10 9 2 v (p_part (M 0) n 9 999 1 v (p_part (M 0) n 8 3 0 v (tN (M 0) n (tN (M 0) n c)) T).2.1 (p_part (M 0) n 8 3 0 v (tN (M 0) n (tN (M 0) n c)) T).2.2).2.1 (p_part (M 0) n 9 999 1 v (p_part (M 0) n 8 3 0 v (tN (M 0) n (tN (M 0) n c)) T).2.1 (p_part (M 0) n 8 3 0 v (tN (M 0) n (tN (M 0) n c)) T).2.2).2.2) := by rw [e, p_th_t c27, p_th_t c44]
          have eX : (0 : Int32) = if ((p_part (M 0) n 10 9 2 v (p_part (M 0) n 9 999 1 v (p_part (M 0) n 8 3 0 v (tN (M 0) n (tN (M 0) n c)) T).2.1 (p_part (M 0) n 8 3 0 v (tN (M 0) n (tN (M 0) n c)) T).2.2).2.1 (p_part (M 0) n 9 999 1 v (p_part (M 0) n 8 3 0 v (tN (M 0) n (tN (M 0) n c)) T).2.1 (p_part (M 0) n 8 3 0 v (tN (M 0) n (tN (M 0) n c)) T).2.2).2.2)).1 then 1 else 0 := by rw [if_neg c60]
          refine rb_iconst (v := 0) X (pc := 67) dX2_tellHouse_67 (by decide) ?_
          refine rb_zret (S := []) X (pc := 68) Y dX2_tellHouse_68 rfl ?_
          have zz := p_fin (h := h) (M := M) (n := n) _ eR eX
          exact zz
        · (try simp only [sp_b0, Classical.not_not] at c60)
          have eR : p_house (M 0) n (tN (M 0) n c) T = (p_part (M 0) n 10 9 2 v (p_part (M 0) n 9 999 1 v (p_part (M 0) n 8 3 0 v (tN (M 0) n (tN (M 0) n c)) T).2.1 (p_part (M 0) n 8 3 0 v (tN (M 0) n (tN (M 0) n c)) T).2.2).2.1 (p_part (M 0) n 9 999 1 v (p_part (M 0) n 8 3 0 v (tN (M 0) n (tN (M 0) n c)) T).2.1 (p_part (M 0) n 8 3 0 v (tN (M 0) n (tN (M 0) n c)) T).2.2).2.2) := by rw [e, p_th_t c27, p_th_t c44]
          have eX : (1 : Int32) = if ((p_part (M 0) n 10 9 2 v (p_part (M 0) n 9 999 1 v (p_part (M 0) n 8 3 0 v (tN (M 0) n (tN (M 0) n c)) T).2.1 (p_part (M 0) n 8 3 0 v (tN (M 0) n (tN (M 0) n c)) T).2.2).2.1 (p_part (M 0) n 9 999 1 v (p_part (M 0) n 8 3 0 v (tN (M 0) n (tN (M 0) n c)) T).2.1 (p_part (M 0) n 8 3 0 v (tN (M 0) n (tN (M 0) n c)) T).2.2).2.2)).1 then 1 else 0 := by rw [if_pos c60]
          refine rb_iconst (v := 1) X (pc := 63) dX2_tellHouse_63 (by decide) ?_
          refine rb_goto X (pc := 64) (tgt := 68) dX2_tellHouse_64 (by decide) ?_
          refine rb_zret (S := []) X (pc := 68) Y dX2_tellHouse_68 rfl ?_
          have zz := p_fin (h := h) (M := M) (n := n) _ eR eX
          exact zz
set_option maxRecDepth 100000 in
set_option maxHeartbeats 1000000 in
theorem qX2_tellRumour {G : rb_G} {h : rb_H} {M : rb_T} {n c : Nat} {T : rb_T} (hn : n ≤ 120) (hM : M 1 0 = nI n) (hc : c ≤ n) (hok : sp_ok T) {k : Int32} (hk : ∃ q, q < 6 ∧ k = nI q) : rb_M G 6 yX2_tellRumour cX2_tellRumour 5 (some .boolean) [.ref (rb_ad G 3 0), .ref (rb_ad G 1 0), .int k] (tp h M n c T) (rb_F (some (.int (if (p_rum (M 0) n k c T).1 then 1 else 0))) (tp h M n (p_rum (M 0) n k c T).2.1 (p_rum (M 0) n k c T).2.2)) := by
  refine rb_meth (L := [.ref (rb_ad G 3 0), .ref (rb_ad G 1 0), .int k, .null, .null]) (by decide) (Nat.le_of_ble_eq_true rfl) rfl (fun Z X Y => ?_)
  have X : rb_CX Z G cX2_tellRumour 5 RX2 6 := X
  have hN1 := tN_le (f := M 0) hc
  have hN2 := tN_le (f := M 0) hN1.2
  have hN3 := tN_le (f := M 0) hN2.2
  have h10 := hok.2.1
  refine rb_aload_n X (pc := 0) dX2_tellRumour_0 rfl rfl ?_
  refine rc_callVi X (pc := 1) cvX3_isFull mX2_88 (rb_obT (t := 1) (by decide)) (qX3_isFull (t := 1) (by decide)) (by decide) rfl rfl (Nat.le_of_ble_eq_true rfl) dX2_tellRumour_1 ?_
  refine rb_if_eq X (pc := 4) (tgt := 9) dX2_tellRumour_4 (by decide) (fun c4 => ?_) (fun c4 => ?_)
  · (try simp only [sp_b0, Classical.not_not] at c4)
    have hnf : sp_n T < 10 := by
      rcases Nat.lt_or_ge (sp_n T) 10 with z | z
      · exact z
      · exact absurd (by rw [hok.1]; exact (nI_leI (a := 10) (by omega) (by omega)).mpr z) c4
    refine rb_aload_n X (pc := 9) dX2_tellRumour_9 rfl rfl ?_
    refine rc_callVv X (pc := 10) cvX2_nextToken mX2_31 rb_ob3 (qN hn hM hc) (by decide) rfl rfl (Nat.le_of_ble_eq_true rfl) dX2_tellRumour_10 ?_
    refine rb_aload_n X (pc := 13) dX2_tellRumour_13 rfl rfl ?_
    refine rb_ldcS X (pc := 14) 11 (by decide) rfl rfl dX2_tellRumour_14 ?_
    refine rc_callVi X (pc := 16) cvX2_isWord mX2_40 rb_ob3 (qW hn hN1.2 (i := 11) (by decide)) (by decide) rfl rfl (Nat.le_of_ble_eq_true rfl) dX2_tellRumour_16 ?_
    refine rb_if_ne X (pc := 19) (tgt := 24) dX2_tellRumour_19 (by decide) (fun c19 => ?_) (fun c19 => ?_)
    · (try simp only [sp_b0, Classical.not_not] at c19)
      refine rb_aload_n X (pc := 24) dX2_tellRumour_24 rfl rfl ?_
      refine rc_callVv X (pc := 25) cvX2_nextToken mX2_31 rb_ob3 (qN hn hM hN1.2) (by decide) rfl rfl (Nat.le_of_ble_eq_true rfl) dX2_tellRumour_25 ?_
      refine rb_aload_n X (pc := 28) dX2_tellRumour_28 rfl rfl ?_
      refine rb_bipush (v := 15) X (pc := 29) dX2_tellRumour_29 (by decide) ?_
      refine rc_callVi X (pc := 31) cvX2_passNumber mX2_62 rb_ob3 (qX2_passNumber hn hM hN2.2 _) (by decide) rfl rfl (Nat.le_of_ble_eq_true rfl) dX2_tellRumour_31 ?_
      refine rb_istore_n X (pc := 34) dX2_tellRumour_34 rfl (by decide) rfl rfl ?_
      refine rb_iload_n X (pc := 35) dX2_tellRumour_35 rfl rfl ?_
      refine rb_if_ge X (pc := 36) (tgt := 41) dX2_tellRumour_36 (by decide) (fun c36 => ?_) (fun c36 => ?_)
      · have hm : tM (M 0) n (tN (M 0) n (tN (M 0) n c)) 15 = true := by
          by_cases z : tM (M 0) n (tN (M 0) n (tN (M 0) n c)) 15 = true
          · exact z
          · rw [if_neg z] at c36; exact absurd c36 (by decide)
        obtain ⟨v, hv, ev⟩ := tM_of (m := 15) (by decide) hm
        rw [if_pos hm, if_pos hm]
        have hokA : sp_ok (sp_add T k (tV (M 0) n (tN (M 0) n (tN (M 0) n c))) 10) := sp_add_ok hok hnf hk ⟨v, by omega, ev⟩ ⟨10, by omega, rfl⟩
        have hokP : sp_ok (p_part (M 0) n 12 99 7 (sp_n T) (tN (M 0) n (tN (M 0) n (tN (M 0) n c))) (sp_add T k (tV (M 0) n (tN (M 0) n (tN (M 0) n c))) 10)).2.2 := p_part_ok (m := 99) (by decide) hokA (fun v hv => ok_u7 hokA hv)
        refine rb_aload_n X (pc := 41) dX2_tellRumour_41 rfl rfl ?_
        refine rb_iload_n X (pc := 42) dX2_tellRumour_42 rfl rfl ?_
        refine rb_iload_n X (pc := 43) dX2_tellRumour_43 rfl rfl ?_
        refine rb_bipush (v := 10) X (pc := 44) dX2_tellRumour_44 (by decide) ?_
        refine rc_callVi X (pc := 46) cvX3_addOne mX2_94 (rb_obT (t := 1) (by decide)) (qX3_addOne (t := 1) (by decide) hok.1 hok.2.1 _ _ _ hnf) (by decide) rfl rfl (Nat.le_of_ble_eq_true rfl) dX2_tellRumour_46 ?_
        refine rb_istore X (pc := 49) dX2_tellRumour_49 (by decide) rfl rfl ?_
        refine rb_iload X (pc := 51) dX2_tellRumour_51 rfl ?_
        refine rb_if_lt X (pc := 53) (tgt := 87) dX2_tellRumour_53 (by decide) (fun c53 => absurd c53 (nI_pos (by omega))) (fun c53 => ?_)
        refine rb_aload_n X (pc := 56) dX2_tellRumour_56 rfl rfl ?_
        refine rb_ldcS X (pc := 57) 12 (by decide) rfl rfl dX2_tellRumour_57 ?_
        refine rb_bipush (v := 99) X (pc := 59) dX2_tellRumour_59 (by decide) ?_
        refine rb_aload_n X (pc := 61) dX2_tellRumour_61 rfl rfl ?_
        refine rc_getR X (pc := 62) fX2_100 (rb_obT (t := 1) (by decide)) rfl dX2_tellRumour_62 ?_
        refine rb_iload X (pc := 65) dX2_tellRumour_65 rfl ?_
        refine rc_callVi X (pc := 67) cvX2_tellPart mX2_72 rb_ob3 (qX2_tellPart hn hM hN3.2 (i := 12) (by decide) (rb_arT7 (t := 1) (by decide)) (by decide) (by decide) (by decide) (by decide) (by omega) 99) (by decide) rfl rfl (Nat.le_of_ble_eq_true rfl) dX2_tellRumour_67 ?_
        refine rb_if_eq X (pc := 70) (tgt := 87) dX2_tellRumour_70 (by decide) (fun c70 => ?_) (fun c70 => ?_)
        · (try simp only [sp_b0, Classical.not_not] at c70)
          have eR : p_rum (M 0) n k c T = (p_part (M 0) n 12 99 7 (sp_n T) (tN (M 0) n (tN (M 0) n (tN (M 0) n c))) (sp_add T k (tV (M 0) n (tN (M 0) n (tN (M 0) n c))) 10)) := by rw [p_rum, if_neg c4, if_pos c19, p_rum2, if_pos hm, p_th_f c70]
          have eX : (0 : Int32) = if ((p_part (M 0) n 12 99 7 (sp_n T) (tN (M 0) n (tN (M 0) n (tN (M 0) n c))) (sp_add T k (tV (M 0) n (tN (M 0) n (tN (M 0) n c))) 10))).1 then 1 else 0 := by rw [if_neg c70]
          refine rb_iconst (v := 0) X (pc := 87) dX2_tellRumour_87 (by decide) ?_
          refine rb_zret (S := []) X (pc := 88) Y dX2_tellRumour_88 rfl ?_
          have zz := p_fin (h := h) (M := M) (n := n) _ eR eX
          exact zz
        · (try simp only [sp_b0, Classical.not_not] at c70)
          refine rb_aload_n X (pc := 73) dX2_tellRumour_73 rfl rfl ?_
          refine rb_aload_n X (pc := 74) dX2_tellRumour_74 rfl rfl ?_
          refine rb_iload X (pc := 75) dX2_tellRumour_75 rfl ?_
          refine rc_callVi X (pc := 77) cvX2_tellLodging mX2_103 rb_ob3 (qX2_tellLodging hn hM (p_part_le hN3.2) hokP (r := sp_n T) (by rw [p_part_n (by decide), sp_add_n hok.1 hnf]; omega)) (by decide) rfl rfl (Nat.le_of_ble_eq_true rfl) dX2_tellRumour_77 ?_
          refine rb_if_eq X (pc := 80) (tgt := 87) dX2_tellRumour_80 (by decide) (fun c80 => ?_) (fun c80 => ?_)
          · (try simp only [sp_b0, Classical.not_not] at c80)
            have eR : p_rum (M 0) n k c T = (p_lod (M 0) n (sp_n T) (p_part (M 0) n 12 99 7 (sp_n T) (tN (M 0) n (tN (M 0) n (tN (M 0) n c))) (sp_add T k (tV (M 0) n (tN (M 0) n (tN (M 0) n c))) 10)).2.1 (p_part (M 0) n 12 99 7 (sp_n T) (tN (M 0) n (tN (M 0) n (tN (M 0) n c))) (sp_add T k (tV (M 0) n (tN (M 0) n (tN (M 0) n c))) 10)).2.2) := by rw [p_rum, if_neg c4, if_pos c19, p_rum2, if_pos hm, p_th_t c70]
            have eX : (0 : Int32) = if ((p_lod (M 0) n (sp_n T) (p_part (M 0) n 12 99 7 (sp_n T) (tN (M 0) n (tN (M 0) n (tN (M 0) n c))) (sp_add T k (tV (M 0) n (tN (M 0) n (tN (M 0) n c))) 10)).2.1 (p_part (M 0) n 12 99 7 (sp_n T) (tN (M 0) n (tN (M 0) n (tN (M 0) n c))) (sp_add T k (tV (M 0) n (tN (M 0) n (tN (M 0) n c))) 10)).2.2)).1 then 1 else 0 := by rw [if_neg c80]
            refine rb_iconst (v := 0) X (pc := 87) dX2_tellRumour_87 (by decide) ?_
            refine rb_zret (S := []) X (pc := 88) Y dX2_tellRumour_88 rfl ?_
            have zz := p_fin (h := h) (M := M) (n := n) _ eR eX
            exact zz
          · (try simp only [sp_b0, Classical.not_not] at c80)
            have eR : p_rum (M 0) n k c T = (p_lod (M 0) n (sp_n T) (p_part (M 0) n 12 99 7 (sp_n T) (tN (M 0) n (tN (M 0) n (tN (M 0) n c))) (sp_add T k (tV (M 0) n (tN (M 0) n (tN (M 0) n c))) 10)).2.1 (p_part (M 0) n 12 99 7 (sp_n T) (tN (M 0) n (tN (M 0) n (tN (M 0) n c))) (sp_add T k (tV (M 0) n (tN (M 0) n (tN (M 0) n c))) 10)).2.2) := by rw [p_rum, if_neg c4, if_pos c19, p_rum2, if_pos hm, p_th_t c70]
            have eX : (1 : Int32) = if ((p_lod (M 0) n (sp_n T) (p_part (M 0) n 12 99 7 (sp_n T) (tN (M 0) n (tN (M 0) n (tN (M 0) n c))) (sp_add T k (tV (M 0) n (tN (M 0) n (tN (M 0) n c))) 10)).2.1 (p_part (M 0) n 12 99 7 (sp_n T) (tN (M 0) n (tN (M 0) n (tN (M 0) n c))) (sp_add T k (tV (M 0) n (tN (M 0) n (tN (M 0) n c))) 10)).2.2)).1 then 1 else 0 := by rw [if_pos c80]
            refine rb_iconst (v := 1) X (pc := 83) dX2_tellRumour_83 (by decide) ?_
            refine rb_goto X (pc := 84) (tgt := 88) dX2_tellRumour_84 (by decide) ?_
            refine rb_zret (S := []) X (pc := 88) Y dX2_tellRumour_88 rfl ?_
            have zz := p_fin (h := h) (M := M) (n := n) _ eR eX
            exact zz
      · have hm : ¬ tM (M 0) n (tN (M 0) n (tN (M 0) n c)) 15 = true := by
          intro z
          obtain ⟨v, hv, ev⟩ := tM_of (m := 15) (by decide) z
          rw [if_pos z, ev] at c36
          exact absurd c36 (fun z => z (nI_pos' (by omega)))
        rw [if_neg hm, if_neg hm]
        refine rb_iconst (v := 0) X (pc := 39) dX2_tellRumour_39 (by decide) ?_
        refine rb_zret (S := []) X (pc := 40) Y dX2_tellRumour_40 rfl ?_
        exact p_fin (false, (tN (M 0) n (tN (M 0) n c)), T) (by rw [p_rum, if_neg c4, if_pos c19, p_rum2, if_neg hm]) rfl
    · (try simp only [sp_b0, Classical.not_not] at c19)
      refine rb_iconst (v := 0) X (pc := 22) dX2_tellRumour_22 (by decide) ?_
      refine rb_zret (S := []) X (pc := 23) Y dX2_tellRumour_23 rfl ?_
      exact p_fin (false, (tN (M 0) n c), T) (by rw [p_rum, if_neg c4, if_neg c19]) rfl
  · (try simp only [sp_b0, Classical.not_not] at c4)
    refine rb_iconst (v := 0) X (pc := 7) dX2_tellRumour_7 (by decide) ?_
    refine rb_zret (S := []) X (pc := 8) Y dX2_tellRumour_8 rfl ?_
    exact p_fin (false, c, T) (by rw [p_rum, if_pos c4]) rfl
set_option maxRecDepth 100000 in
set_option maxHeartbeats 1000000 in
theorem lpX2_tellItem_32 {Z : rb_Z} {G : rb_G} {h : rb_H} {M : rb_T} {n c : Nat} {T : rb_T} (hn : n ≤ 120) (hM : M 1 0 = nI n) (hc : c ≤ n) (hok : sp_ok T) (h6 : ¬ tW (M 0) n c 6 = true) (h7 : ¬ tW (M 0) n c 7 = true) (X : rb_CX Z G cX2_tellItem 3 RX2 7) (Y : rb_RT Z G (some .boolean) (rb_F (some (.int (if (p_item (M 0) n c T).1 then 1 else 0))) (tp h M n (p_item (M 0) n c T).2.1 (p_item (M 0) n c T).2.2))) : ∀ fu : Nat, ∀ i : Nat, i ≤ 6 → 7 ≤ i + fu → (∀ k, k < i → tW (M 0) n c k = false) → rb_WP Z G 3 32 [.ref (rb_ad G 3 0), .ref (rb_ad G 1 0), .int (nI i)] [] (tp h M n c T) := by
  intro fu
  induction fu with
  | zero => intro i hi hf hno; omega
  | succ fu ih =>
    intro i hi hf hno
    refine rb_iload_n X (pc := 32) dX2_tellItem_32 rfl rfl ?_
    refine rb_bipush (v := 6) X (pc := 33) dX2_tellItem_33 (by decide) ?_
    refine rb_icmp_ge X (pc := 35) (tgt := 62) dX2_tellItem_35 (by decide) (fun c35 => ?_) (fun c35 => ?_)
    · have hi2 := (sp_geI (n := 6) rfl (by omega) (by omega)).mp c35
      obtain rfl : i = 6 := by omega
      have hkd : p_kd (M 0) n c = 6 := fa_first_none hno
      refine rb_iconst (v := 0) X (pc := 62) dX2_tellItem_62 (by decide) ?_
      refine rb_zret (S := []) X (pc := 63) Y dX2_tellItem_63 rfl ?_
      exact p_fin (false, c, T) (by rw [p_item, if_neg h6, if_neg h7, hkd]; rfl) rfl
    · have hi2 : i < 6 := Nat.lt_of_not_le (fun z => c35 ((sp_geI (n := 6) rfl (by omega) (by omega)).mpr z))
      refine rb_aload_n X (pc := 38) dX2_tellItem_38 rfl rfl ?_
      refine rb_iload_n X (pc := 39) dX2_tellItem_39 rfl rfl ?_
      refine rc_callSa X (pc := 40) cvX0_nameOf mX2_54 (qX0_nameOf _) (by decide) rfl rfl (Nat.le_of_ble_eq_true rfl) dX2_tellItem_40 ?_
      rw [sp_nm_i hi2]
      refine rc_callVi X (pc := 43) cvX2_isWord mX2_40 rb_ob3 (qW hn hc (i := i) (by omega)) (by decide) rfl rfl (Nat.le_of_ble_eq_true rfl) dX2_tellItem_43 ?_
      refine rb_if_eq X (pc := 46) (tgt := 56) dX2_tellItem_46 (by decide) (fun c46 => ?_) (fun c46 => ?_)
      · (try simp only [sp_b0, Classical.not_not] at c46)
        refine rb_iinc X (pc := 56) dX2_tellItem_56 rfl (sp_inc _) (by decide) rfl rfl ?_
        refine rb_goto X (pc := 59) (tgt := 32) dX2_tellItem_59 (by decide) ?_
        have c46 : tW (M 0) n c i = false := by simpa using c46
        exact sp_go rfl rfl (ih (i + 1) (by omega) (by omega) (fun k hk => by
          by_cases e : k = i
          · rw [e]; exact c46
          · exact hno k (by omega)))
      · (try simp only [sp_b0, Classical.not_not] at c46)
        have hkd : p_kd (M 0) n c = i := fa_first_eq hi2 c46 hno
        refine rb_aload_n X (pc := 49) dX2_tellItem_49 rfl rfl ?_
        refine rb_aload_n X (pc := 50) dX2_tellItem_50 rfl rfl ?_
        refine rb_iload_n X (pc := 51) dX2_tellItem_51 rfl rfl ?_
        refine rc_callVi X (pc := 52) cvX2_tellRumour mX2_58 rb_ob3 (qX2_tellRumour hn hM hc hok ⟨i, hi2, rfl⟩) (by decide) rfl rfl (Nat.le_of_ble_eq_true rfl) dX2_tellItem_52 ?_
        refine rb_zret (S := []) X (pc := 55) Y dX2_tellItem_55 sp_zn ?_
        exact p_fin _ (by rw [p_item, if_neg h6, if_neg h7, hkd, if_pos hi2]) rfl
set_option maxRecDepth 100000 in
set_option maxHeartbeats 1000000 in
theorem qX2_tellItem {G : rb_G} {h : rb_H} {M : rb_T} {n c : Nat} {T : rb_T} (hn : n ≤ 120) (hM : M 1 0 = nI n) (hc : c ≤ n) (hok : sp_ok T) : rb_M G 7 yX2_tellItem cX2_tellItem 3 (some .boolean) [.ref (rb_ad G 3 0), .ref (rb_ad G 1 0)] (tp h M n c T) (rb_F (some (.int (if (p_item (M 0) n c T).1 then 1 else 0))) (tp h M n (p_item (M 0) n c T).2.1 (p_item (M 0) n c T).2.2)) := by
  refine rb_meth (L := [.ref (rb_ad G 3 0), .ref (rb_ad G 1 0), .null]) (by decide) (Nat.le_of_ble_eq_true rfl) rfl (fun Z X Y => ?_)
  have X : rb_CX Z G cX2_tellItem 3 RX2 7 := X
  refine rb_aload_n X (pc := 0) dX2_tellItem_0 rfl rfl ?_
  refine rb_ldcS X (pc := 1) 6 (by decide) rfl rfl dX2_tellItem_1 ?_
  refine rc_callVi X (pc := 3) cvX2_isWord mX2_40 rb_ob3 (qW hn hc (i := 6) (by decide)) (by decide) rfl rfl (Nat.le_of_ble_eq_true rfl) dX2_tellItem_3 ?_
  refine rb_if_eq X (pc := 6) (tgt := 15) dX2_tellItem_6 (by decide) (fun c6 => ?_) (fun c6 => ?_)
  · (try simp only [sp_b0, Classical.not_not] at c6)
    refine rb_aload_n X (pc := 15) dX2_tellItem_15 rfl rfl ?_
    refine rb_ldcS X (pc := 16) 7 (by decide) rfl rfl dX2_tellItem_16 ?_
    refine rc_callVi X (pc := 18) cvX2_isWord mX2_40 rb_ob3 (qW hn hc (i := 7) (by decide)) (by decide) rfl rfl (Nat.le_of_ble_eq_true rfl) dX2_tellItem_18 ?_
    refine rb_if_eq X (pc := 21) (tgt := 30) dX2_tellItem_21 (by decide) (fun c21 => ?_) (fun c21 => ?_)
    · (try simp only [sp_b0, Classical.not_not] at c21)
      refine rb_iconst (v := 0) X (pc := 30) dX2_tellItem_30 (by decide) ?_
      refine rb_istore_n X (pc := 31) dX2_tellItem_31 rfl (by decide) rfl rfl ?_
      exact sp_go rfl rfl (lpX2_tellItem_32 hn hM hc hok c6 c21 X Y 7 0 (by omega) (by omega) (fun k hk => absurd hk (by omega)))
    · (try simp only [sp_b0, Classical.not_not] at c21)
      refine rb_aload_n X (pc := 24) dX2_tellItem_24 rfl rfl ?_
      refine rb_aload_n X (pc := 25) dX2_tellItem_25 rfl rfl ?_
      refine rc_callVi X (pc := 26) cvX2_tellTrue mX2_49 rb_ob3 (qX2_tellTrue hn hM hc hok) (by decide) rfl rfl (Nat.le_of_ble_eq_true rfl) dX2_tellItem_26 ?_
      refine rb_zret (S := []) X (pc := 29) Y dX2_tellItem_29 sp_zn ?_
      exact p_fin _ (by rw [p_item, if_neg c6, if_pos c21]) rfl
  · (try simp only [sp_b0, Classical.not_not] at c6)
    refine rb_aload_n X (pc := 9) dX2_tellItem_9 rfl rfl ?_
    refine rb_aload_n X (pc := 10) dX2_tellItem_10 rfl rfl ?_
    refine rc_callVi X (pc := 11) cvX2_tellHouse mX2_44 rb_ob3 (qX2_tellHouse hn hM hc hok) (by decide) rfl rfl (Nat.le_of_ble_eq_true rfl) dX2_tellItem_11 ?_
    refine rb_zret (S := []) X (pc := 14) Y dX2_tellItem_14 sp_zn ?_
    exact p_fin _ (by rw [p_item, if_pos c6]) rfl
set_option maxRecDepth 100000 in
set_option maxHeartbeats 1000000 in
theorem lpX2_tellTo_11 {Z : rb_Z} {G : rb_G} {h : rb_H} {M : rb_T} {n : Nat} (hn : n ≤ 120) (hM : M 1 0 = nI n) {R : Int32 × rb_T} (X : rb_CX Z G cX2_tellTo 3 RX2 8) (Y : rb_RT Z G (some .int) (fun r h2 => r = some (.int R.1) ∧ ∃ a, h2 = tp h M n a R.2)) : ∀ fu : Nat, ∀ (it a : Nat) (T : rb_T), sp_ok T → a ≤ n → it + fu = 122 → it ≤ 121 → p_tell (M 0) n (fu - 1) it a T = R → rb_WP Z G 3 11 [.ref (rb_ad G 3 0), .ref (rb_ad G 1 0), .int (nI it)] [] (tp h M n a T) := by
  intro fu
  induction fu with
  | zero => intro it a T hok ha hf hit hR; omega
  | succ fu ih =>
    intro it a T hok ha hf hit hR
    rw [Nat.add_sub_cancel] at hR
    obtain ⟨hg1, hg2⟩ := p_item_g (f := M 0) ha hok
    refine rb_iload_n X (pc := 11) dX2_tellTo_11 rfl rfl ?_
    refine rb_bipush (v := 120) X (pc := 12) dX2_tellTo_12 (by decide) ?_
    refine rb_icmp_gt X (pc := 14) (tgt := 66) dX2_tellTo_14 (by decide) (fun c14 => ?_) (fun c14 => ?_)
    · have h1 := (nI_ltI (a := 120) (by omega) (by omega)).mp c14
      obtain rfl : fu = 0 := by omega
      subst hR
      refine rb_iconst (v := (-1)) X (pc := 66) dX2_tellTo_66 (by decide) ?_
      refine rb_aload_n X (pc := 67) dX2_tellTo_67 rfl rfl ?_
      refine rc_getI X (pc := 68) fX2_22 rb_ob3 rfl t4_3 dX2_tellTo_68 ?_
      refine rb_isub X (pc := 71) dX2_tellTo_71 ?_
      refine rb_iret (S := []) X (pc := 72) Y dX2_tellTo_72 ?_
      exact ⟨rfl, _, rfl⟩
    · have h1 : ¬ 120 < it := fun z => c14 ((nI_ltI (a := 120) (by omega) (by omega)).mpr z)
      obtain ⟨m, rfl⟩ : ∃ m, fu = m + 1 := ⟨fu - 1, by omega⟩
      rw [p_tell] at hR
      refine rb_aload_n X (pc := 17) dX2_tellTo_17 rfl rfl ?_
      refine rb_aload_n X (pc := 18) dX2_tellTo_18 rfl rfl ?_
      refine rc_callVi X (pc := 19) cvX2_tellItem mX2_34 rb_ob3 (qX2_tellItem hn hM ha hok) (by decide) rfl rfl (Nat.le_of_ble_eq_true rfl) dX2_tellTo_19 ?_
      refine rb_if_ne X (pc := 22) (tgt := 32) dX2_tellTo_22 (by decide) (fun c22 => ?_) (fun c22 => ?_)
      · (try simp only [sp_b0, Classical.not_not] at c22)
        rw [if_pos c22] at hR
        refine rb_aload_n X (pc := 32) dX2_tellTo_32 rfl rfl ?_
        refine rc_getI X (pc := 33) fX2_19 rb_ob3 rfl t4_2 dX2_tellTo_33 ?_
        refine rb_if_ne X (pc := 36) (tgt := 41) dX2_tellTo_36 (by decide) (fun c36 => ?_) (fun c36 => ?_)
        · rw [if_neg c36] at hR
          refine rb_aload_n X (pc := 41) dX2_tellTo_41 rfl rfl ?_
          refine rc_getI X (pc := 42) fX2_19 rb_ob3 rfl t4_2 dX2_tellTo_42 ?_
          refine rb_iconst (v := 3) X (pc := 45) dX2_tellTo_45 (by decide) ?_
          refine rb_icmp_eq X (pc := 46) (tgt := 56) dX2_tellTo_46 (by decide) (fun c46 => ?_) (fun c46 => ?_)
          · rw [if_pos c46] at hR
            refine rb_aload_n X (pc := 56) dX2_tellTo_56 rfl rfl ?_
            refine rc_callVv X (pc := 57) cvX2_nextToken mX2_31 rb_ob3 (qN hn hM hg1) (by decide) rfl rfl (Nat.le_of_ble_eq_true rfl) dX2_tellTo_57 ?_
            refine rb_iinc X (pc := 60) dX2_tellTo_60 rfl (sp_inc _) (by decide) rfl rfl ?_
            refine rb_goto X (pc := 63) (tgt := 11) dX2_tellTo_63 (by decide) ?_
            exact sp_go rfl rfl (ih (it + 1) _ _ hg2 (tN_le hg1).2 (by omega) (by omega) hR)
          · rw [if_neg c46] at hR
            refine rb_iconst (v := (-1)) X (pc := 49) dX2_tellTo_49 (by decide) ?_
            refine rb_aload_n X (pc := 50) dX2_tellTo_50 rfl rfl ?_
            refine rc_getI X (pc := 51) fX2_22 rb_ob3 rfl t4_3 dX2_tellTo_51 ?_
            refine rb_isub X (pc := 54) dX2_tellTo_54 ?_
            refine rb_iret (S := []) X (pc := 55) Y dX2_tellTo_55 ?_
            subst hR; exact ⟨rfl, _, rfl⟩
        · rw [if_pos (by simpa using c36)] at hR
          refine rb_iload_n X (pc := 39) dX2_tellTo_39 rfl rfl ?_
          refine rb_iret (S := []) X (pc := 40) Y dX2_tellTo_40 ?_
          subst hR; exact ⟨rfl, _, rfl⟩
      · (try simp only [sp_b0, Classical.not_not] at c22)
        rw [if_neg c22] at hR
        refine rb_iconst (v := (-1)) X (pc := 25) dX2_tellTo_25 (by decide) ?_
        refine rb_aload_n X (pc := 26) dX2_tellTo_26 rfl rfl ?_
        refine rc_getI X (pc := 27) fX2_22 rb_ob3 rfl t4_3 dX2_tellTo_27 ?_
        refine rb_isub X (pc := 30) dX2_tellTo_30 ?_
        refine rb_iret (S := []) X (pc := 31) Y dX2_tellTo_31 ?_
        subst hR; exact ⟨rfl, _, rfl⟩
set_option maxRecDepth 100000 in
set_option maxHeartbeats 1000000 in
theorem qX2_tellTo {G : rb_G} {h : rb_H} {M : rb_T} {n : Nat} (hn : n ≤ 120) (hM : M 1 0 = nI n) {T : rb_T} (hok : sp_ok T) {R : Int32 × rb_T} (hR : p_tell (M 0) n 120 1 (skp (tB (M 0)) n 0) T = R) : rb_M G 8 yX2_tellTo cX2_tellTo 3 (some .int) [.ref (rb_ad G 3 0), .ref (rb_ad G 1 0)] (rb_st (tw h 1 T) 3 M) (fun r h2 => r = some (.int R.1) ∧ ∃ a, h2 = tp h M n a R.2) := by
  refine rb_meth (L := [.ref (rb_ad G 3 0), .ref (rb_ad G 1 0), .null]) (by decide) (Nat.le_of_ble_eq_true rfl) rfl (fun Z X Y => ?_)
  have X : rb_CX Z G cX2_tellTo 3 RX2 8 := X
  have e0 : rb_st (tw h 1 T) 3 M = rb_st (tw h 1 T) 3 (h4 M (M 2 0) (M 3 0) (M 4 0) (M 5 0)) := by rw [h4_self]
  rw [e0]
  refine rb_aload_n X (pc := 0) dX2_tellTo_0 rfl rfl ?_
  refine rb_iconst (v := 0) X (pc := 1) dX2_tellTo_1 (by decide) ?_
  refine rc_put X (pc := 2) fX2_25 gX2_4 rb_ob3 rfl rfl rfl p4_4 dX2_tellTo_2 ?_
  refine rb_aload_n X (pc := 5) dX2_tellTo_5 rfl rfl ?_
  refine rc_callVv X (pc := 6) cvX2_nextToken mX2_31 rb_ob3 (qX2_nextToken (p := 0) hn hM (by omega)) (by decide) rfl rfl (Nat.le_of_ble_eq_true rfl) dX2_tellTo_6 ?_
  rw [← tp_eq]
  refine rb_iconst (v := 1) X (pc := 9) dX2_tellTo_9 (by decide) ?_
  refine rb_istore_n X (pc := 10) dX2_tellTo_10 rfl (by decide) rfl rfl ?_
  exact sp_go rfl rfl (lpX2_tellTo_11 hn hM X Y 121 1 _ T hok (skp_le (by omega)).2 (by omega) (by omega) hR)
