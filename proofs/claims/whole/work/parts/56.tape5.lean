section PP
variable {f : Nat → Int32} {n i j q c : Nat} {T : rb_T}
theorem p_part_le {m : Int32} (hc : c ≤ n) : (p_part f n i m j q c T).2.1 ≤ n := by
  unfold p_part
  split
  · split
    · exact (tN_le (tN_le hc).2).2
    · exact (tN_le hc).2
  · exact hc
theorem p_part_n {m : Int32} (h4 : j ≠ 4) : sp_n (p_part f n i m j q c T).2.2 = sp_n T := by
  unfold p_part
  split
  · split
    · exact sp_n_u2 h4
    · rfl
  · rfl
theorem p_part_ok {m : Nat} (hm : m < 2 ^ 31) (h : sp_ok T) (hu : ∀ v, (∃ k, k ≤ m ∧ v = nI k) → sp_ok (u2 T j q v)) : sp_ok (p_part f n i (nI m) j q c T).2.2 := by
  unfold p_part
  split
  · split
    · rename_i z; exact hu _ (tM_of hm z)
    · exact h
  · exact h
theorem p_lod_le (hc : c ≤ n) : (p_lod f n q c T).2.1 ≤ n := by
  unfold p_lod
  split
  · split
    · exact (tN_le (tN_le hc).2).2
    · exact (tN_le hc).2
  · exact hc
theorem p_lod_ok (h : sp_ok T) : sp_ok (p_lod f n q c T).2.2 := by
  unfold p_lod
  split
  · split
    · rename_i z
      simp only [Bool.and_eq_true] at z
      obtain ⟨v, hv, ev⟩ := tM_of (m := 7) (by decide) z.1
      rw [ev]
      exact ok_u9 h (Or.inr ⟨v, by omega, rfl⟩)
    · exact h
  · exact h
end PP
set_option maxRecDepth 100000 in
set_option maxHeartbeats 1000000 in
theorem qX2_tellLodging {G : rb_G} {h : rb_H} {M : rb_T} {n c : Nat} {T : rb_T} (hn : n ≤ 120) (hM : M 1 0 = nI n) (hc : c ≤ n) (hok : sp_ok T) {r : Nat} (hr : r < sp_n T) : rb_M G 5 yX2_tellLodging cX2_tellLodging 3 (some .boolean) [.ref (rb_ad G 3 0), .ref (rb_ad G 1 0), .int (nI r)] (tp h M n c T) (rb_F (some (.int (if (p_lod (M 0) n r c T).1 then 1 else 0))) (tp h M n (p_lod (M 0) n r c T).2.1 (p_lod (M 0) n r c T).2.2)) := by
  refine rb_meth (L := [.ref (rb_ad G 3 0), .ref (rb_ad G 1 0), .int (nI r)]) (by decide) (Nat.le_of_ble_eq_true rfl) rfl (fun Z X Y => ?_)
  have X : rb_CX Z G cX2_tellLodging 3 RX2 5 := X
  have hN1 := tN_le (f := M 0) hc
  have hn10 := hok.2.1
  refine rb_aload_n X (pc := 0) dX2_tellLodging_0 rfl rfl ?_
  refine rb_ldcS X (pc := 1) 13 (by decide) rfl rfl dX2_tellLodging_1 ?_
  refine rc_callVi X (pc := 3) cvX2_isWord mX2_40 rb_ob3 (qW hn hc (i := 13) (by decide)) (by decide) rfl rfl (Nat.le_of_ble_eq_true rfl) dX2_tellLodging_3 ?_
  refine rb_if_ne X (pc := 6) (tgt := 11) dX2_tellLodging_6 (by decide) (fun c6 => ?_) (fun c6 => ?_)
  · (try simp only [sp_b0, Classical.not_not] at c6)
    refine rb_aload_n X (pc := 11) dX2_tellLodging_11 rfl rfl ?_
    refine rc_callVv X (pc := 12) cvX2_nextToken mX2_31 rb_ob3 (qN hn hM (by first | omega | assumption)) (by decide) rfl rfl (Nat.le_of_ble_eq_true rfl) dX2_tellLodging_12 ?_
    refine rb_aload_n X (pc := 15) dX2_tellLodging_15 rfl rfl ?_
    refine rb_bipush (v := 7) X (pc := 16) dX2_tellLodging_16 (by decide) ?_
    refine rc_callVi X (pc := 18) cvX2_isNumber mX2_106 rb_ob3 (qU _) (by decide) rfl rfl (Nat.le_of_ble_eq_true rfl) dX2_tellLodging_18 ?_
    refine rb_if_eq X (pc := 21) (tgt := 35) dX2_tellLodging_21 (by decide) (fun c21 => ?_) (fun c21 => ?_)
    · (try simp only [sp_b0, Classical.not_not] at c21)
      refine rb_iconst (v := 0) X (pc := 35) dX2_tellLodging_35 (by decide) ?_
      refine rb_zret (S := []) X (pc := 36) Y dX2_tellLodging_36 rfl ?_
      first
      | exact ⟨by rw [p_lod, if_pos c6, if_neg (fun z => c21 (Bool.and_eq_true_iff.mp z).1)]; rfl, by rw [p_lod, if_pos c6, if_neg (fun z => c21 (Bool.and_eq_true_iff.mp z).1)]⟩
      | exact ⟨by rw [p_lod, if_pos c6, ei, if_neg (fun z => c32 (of_decide_eq_true (Bool.and_eq_true_iff.mp z).2))]; rfl, by rw [p_lod, if_pos c6, ei, if_neg (fun z => c32 (of_decide_eq_true (Bool.and_eq_true_iff.mp z).2))]⟩
    · (try simp only [sp_b0, Classical.not_not] at c21)
      obtain ⟨v, hv, ev⟩ := tM_of (m := 7) (by decide) c21
      have ei : ix (tV (M 0) n (tN (M 0) n c)) = v := by rw [ev]; exact nI_clamp (by omega)
      refine rb_aload_n X (pc := 24) dX2_tellLodging_24 rfl rfl ?_
      refine rb_aload_n X (pc := 25) dX2_tellLodging_25 rfl rfl ?_
      refine rc_getI X (pc := 26) fX2_28 rb_ob3 rfl (t4_5.trans ev) dX2_tellLodging_26 ?_
      refine rc_callVi X (pc := 29) cvX3_hasBedFree mX2_112 (rb_obT (t := 1) (by decide)) (qX3_hasBedFree (t := 1) (by decide) (q := v) (by omega)) (by decide) rfl rfl (Nat.le_of_ble_eq_true rfl) dX2_tellLodging_29 ?_
      refine rb_if_ne X (pc := 32) (tgt := 37) dX2_tellLodging_32 (by decide) (fun c32 => ?_) (fun c32 => ?_)
      · (try simp only [sp_b0, Classical.not_not] at c32)
        refine rb_aload_n X (pc := 37) dX2_tellLodging_37 rfl rfl ?_
        refine rb_iload_n X (pc := 38) dX2_tellLodging_38 rfl rfl ?_
        refine rb_aload_n X (pc := 39) dX2_tellLodging_39 rfl rfl ?_
        refine rc_getI X (pc := 40) fX2_28 rb_ob3 rfl (t4_5.trans ev) dX2_tellLodging_40 ?_
        refine rc_callVv X (pc := 43) cvX3_lodge mX2_115 (rb_obT (t := 1) (by decide)) (qX3_lodge (t := 1) (by decide) hr hn10 (hok.2.2.1 r (by omega)).2.2.2.2 (Or.inr ⟨v, by omega, rfl⟩)) (by decide) rfl rfl (Nat.le_of_ble_eq_true rfl) dX2_tellLodging_43 ?_
        refine rb_aload_n X (pc := 46) dX2_tellLodging_46 rfl rfl ?_
        refine rc_callVv X (pc := 47) cvX2_nextToken mX2_31 rb_ob3 (qN hn hM hN1.2) (by decide) rfl rfl (Nat.le_of_ble_eq_true rfl) dX2_tellLodging_47 ?_
        refine rb_iconst (v := 1) X (pc := 50) dX2_tellLodging_50 (by decide) ?_
        refine rb_zret (S := []) X (pc := 51) Y dX2_tellLodging_51 rfl ?_
        have hb : (tM (M 0) n (tN (M 0) n c) 7 && sp_free T v) = true := Bool.and_eq_true_iff.mpr ⟨c21, decide_eq_true c32⟩
        exact ⟨by rw [p_lod, if_pos c6, ei, if_pos hb]; rfl, by rw [p_lod, if_pos c6, ei, if_pos hb, ev]⟩
      · (try simp only [sp_b0, Classical.not_not] at c32)
        refine rb_iconst (v := 0) X (pc := 35) dX2_tellLodging_35 (by decide) ?_
        refine rb_zret (S := []) X (pc := 36) Y dX2_tellLodging_36 rfl ?_
        first
        | exact ⟨by rw [p_lod, if_pos c6, if_neg (fun z => c21 (Bool.and_eq_true_iff.mp z).1)]; rfl, by rw [p_lod, if_pos c6, if_neg (fun z => c21 (Bool.and_eq_true_iff.mp z).1)]⟩
        | exact ⟨by rw [p_lod, if_pos c6, ei, if_neg (fun z => c32 (of_decide_eq_true (Bool.and_eq_true_iff.mp z).2))]; rfl, by rw [p_lod, if_pos c6, ei, if_neg (fun z => c32 (of_decide_eq_true (Bool.and_eq_true_iff.mp z).2))]⟩
  · (try simp only [sp_b0, Classical.not_not] at c6)
    refine rb_iconst (v := 1) X (pc := 9) dX2_tellLodging_9 (by decide) ?_
    refine rb_zret (S := []) X (pc := 10) Y dX2_tellLodging_10 rfl ?_
    exact ⟨by rw [p_lod, if_neg c6]; rfl, by rw [p_lod, if_neg c6]⟩
set_option maxRecDepth 100000 in
set_option maxHeartbeats 1000000 in
theorem qX2_tellTrue {G : rb_G} {h : rb_H} {M : rb_T} {n c : Nat} {T : rb_T} (hn : n ≤ 120) (hM : M 1 0 = nI n) (hc : c ≤ n) (hok : sp_ok T) : rb_M G 3 yX2_tellTrue cX2_tellTrue 3 (some .boolean) [.ref (rb_ad G 3 0), .ref (rb_ad G 1 0)] (tp h M n c T) (rb_F (some (.int (if (p_true (M 0) n (tN (M 0) n c) T).1 then 1 else 0))) (tp h M n (p_true (M 0) n (tN (M 0) n c) T).2.1 (p_true (M 0) n (tN (M 0) n c) T).2.2)) := by
  refine rb_meth (L := [.ref (rb_ad G 3 0), .ref (rb_ad G 1 0), .null]) (by decide) (Nat.le_of_ble_eq_true rfl) rfl (fun Z X Y => ?_)
  have X : rb_CX Z G cX2_tellTrue 3 RX2 3 := X
  have hN1 := tN_le (f := M 0) hc
  refine rb_aload_n X (pc := 0) dX2_tellTrue_0 rfl rfl ?_
  refine rc_callVv X (pc := 1) cvX2_nextToken mX2_31 rb_ob3 (qN hn hM (by first | omega | assumption)) (by decide) rfl rfl (Nat.le_of_ble_eq_true rfl) dX2_tellTrue_1 ?_
  refine rb_aload_n X (pc := 4) dX2_tellTrue_4 rfl rfl ?_
  refine rb_bipush (v := 15) X (pc := 5) dX2_tellTrue_5 (by decide) ?_
  refine rc_callVi X (pc := 7) cvX2_passNumber mX2_62 rb_ob3 (qX2_passNumber hn hM hN1.2 _) (by decide) rfl rfl (Nat.le_of_ble_eq_true rfl) dX2_tellTrue_7 ?_
  refine rb_istore_n X (pc := 10) dX2_tellTrue_10 rfl (by decide) rfl rfl ?_
  refine rb_iload_n X (pc := 11) dX2_tellTrue_11 rfl rfl ?_
  refine rb_if_ge X (pc := 12) (tgt := 17) dX2_tellTrue_12 (by decide) (fun c12 => ?_) (fun c12 => ?_)
  · have hm : tM (M 0) n (tN (M 0) n c) 15 = true := by
      by_cases z : tM (M 0) n (tN (M 0) n c) 15 = true
      · exact z
      · rw [if_neg z] at c12; exact absurd c12 (by decide)
    obtain ⟨v, hv, ev⟩ := tM_of (m := 15) (by decide) hm
    rw [if_pos hm, if_pos hm]
    refine rb_aload_n X (pc := 17) dX2_tellTrue_17 rfl rfl ?_
    refine rb_iload_n X (pc := 18) dX2_tellTrue_18 rfl rfl ?_
    refine rc_callVi X (pc := 19) cvX3_becomeTrue mX2_85 (rb_obT (t := 1) (by decide)) (qX3_becomeTrue (t := 1) (by decide) hok _) (by decide) rfl rfl (Nat.le_of_ble_eq_true rfl) dX2_tellTrue_19 ?_
    refine rb_pop X (pc := 22) dX2_tellTrue_22 rfl ?_
    refine rb_iconst (v := 1) X (pc := 23) dX2_tellTrue_23 (by decide) ?_
    refine rb_zret (S := []) X (pc := 24) Y dX2_tellTrue_24 rfl ?_
    exact ⟨by rw [p_true, if_pos hm]; rfl, by rw [p_true, if_pos hm]⟩
  · have hm : ¬ tM (M 0) n (tN (M 0) n c) 15 = true := by
      intro z
      obtain ⟨v, hv, ev⟩ := tM_of (m := 15) (by decide) z
      rw [if_pos z, ev] at c12
      exact absurd c12 (fun z => z (nI_pos' (by omega)))
    rw [if_neg hm, if_neg hm]
    refine rb_iconst (v := 0) X (pc := 15) dX2_tellTrue_15 (by decide) ?_
    refine rb_zret (S := []) X (pc := 16) Y dX2_tellTrue_16 rfl ?_
    exact ⟨by rw [p_true, if_neg hm]; rfl, by rw [p_true, if_neg hm]⟩
