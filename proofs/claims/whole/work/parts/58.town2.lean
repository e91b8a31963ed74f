theorem CI_3 {σ : Sg} {h : rb_H} (hC : CI σ h) (M : rb_T) (h0 : M 0 = sB σ) (h1 : M 1 0 = nI (sL σ)) : CI σ (rb_st h 3 M) := ⟨hC.1, hC.2.1, hC.2.2.1, hC.2.2.2.1, h0, h1, fun s hs => by
  obtain ⟨a, b, c⟩ := hC.2.2.2.2.2.2 s hs
  exact ⟨by rw [rb_st_ne (by omega)]; exact a, by rw [rb_st_ne (by omega)]; exact b, c⟩⟩
set_option maxRecDepth 100000 in
set_option maxHeartbeats 1000000 in
theorem qX4_town {G : rb_G} {σ : Sg} {h : rb_H} (hS : okS σ) (hC : CI σ h) : rb_M G 9 yX4_town cX4_town 2 (some .int) [.ref (rb_ad G 8 0)] (h) (PC h (r_town σ)) := by
  refine rb_meth (L := [.ref (rb_ad G 8 0), .null]) (by decide) (Nat.le_of_ble_eq_true rfl) rfl (fun Z X Y => ?_)
  have X : rb_CX Z G cX4_town 2 RX4 9 := X
  have hok := hS.1
  refine rb_aload_n X (pc := 0) dX4_town_0 rfl rfl ?_
  refine rc_getO (q := 1) X (pc := 1) fX4_16 rb_ob8 rfl dX4_town_1 ?_
  refine rb_aload_n X (pc := 4) dX4_town_4 rfl rfl ?_
  refine rc_getO (q := 0) X (pc := 5) fX4_10 rb_ob8 rfl dX4_town_5 ?_
  refine rc_callVv X (pc := 8) cvX3_becomes mX4_177 (rb_obT (t := 1) (by decide)) (qX3_becomes (t := 1) (t2 := 0) (by decide) (by decide) (by decide) (M2 := wl (sT σ)) hC.1) (by decide) rfl rfl (Nat.le_of_ble_eq_true rfl) dX4_town_8 ?_
  rw [show rb_st h 1 (wl (sT σ)) = rb_st (tw h 1 (sT σ)) 3 (h.1 3) from (rb_st_self rfl).symm]
  refine rb_aload_n X (pc := 11) dX4_town_11 rfl rfl ?_
  refine rc_getO (q := 3) X (pc := 12) fX4_29 rb_ob8 rfl dX4_town_12 ?_
  refine rb_aload_n X (pc := 15) dX4_town_15 rfl rfl ?_
  refine rc_getO (q := 1) X (pc := 16) fX4_16 rb_ob8 rfl dX4_town_16 ?_
  refine rc_callV X (pc := 19) cvX2_tellTo mX4_197 rb_ob3 (qX2_tellTo (h := h) (M := h.1 3) (n := sL σ) hS.2.2.2.1 hC.2.2.2.2.2.1 (T := sT σ) hok (R := k_town σ) (by rw [hC.2.2.2.2.1]; rfl)) (by decide) rfl rfl (Nat.le_of_ble_eq_true rfl) dX4_town_19 (fun r_19 h_19 p_19 => ?_)
  obtain ⟨rfl, a, rfl⟩ := p_19
  refine rb_istore_n X (pc := 22) dX4_town_22 rfl (by decide) rfl rfl ?_
  refine rb_iload_n X (pc := 23) dX4_town_23 rfl rfl ?_
  refine rb_if_le X (pc := 24) (tgt := 38) dX4_town_24 (by decide) (fun c24 => ?_) (fun c24 => ?_)
  · refine rb_aload_n X (pc := 38) dX4_town_38 rfl rfl ?_
    refine rc_getO (q := 3) X (pc := 39) fX4_29 rb_ob8 rfl dX4_town_39 ?_
    refine rb_iconst (v := 0) X (pc := 42) dX4_town_42 (by decide) ?_
    refine rc_put X (pc := 43) fX4_191 gX2_1 rb_ob3 rfl rfl rfl rfl dX4_town_43 ?_
    refine rb_iload_n X (pc := 46) dX4_town_46 rfl rfl ?_
    refine rb_iret (S := []) X (pc := 47) Y dX4_town_47 ?_
    first
    | exact pc_g (CI_L (CI_T (T := sT σ) (CI_A (CI_3 hC (hd (h.1 3) (sL σ) a) hC.2.2.2.2.1 hC.2.2.2.2.2.1) _) (k_town σ).2) 0) rfl rfl (by rw [r_town, if_pos (Int32.not_le.mp c24)]; rfl)
    | exact pc_g (CI_L (CI_A (CI_3 hC (hd (h.1 3) (sL σ) a) hC.2.2.2.2.1 hC.2.2.2.2.2.1) _) 0) rfl rfl (by rw [r_town, if_neg (Int32.not_lt.mpr c24)])
  · refine rb_aload_n X (pc := 27) dX4_town_27 rfl rfl ?_
    refine rc_getO (q := 0) X (pc := 28) fX4_10 rb_ob8 rfl dX4_town_28 ?_
    refine rb_aload_n X (pc := 31) dX4_town_31 rfl rfl ?_
    refine rc_getO (q := 1) X (pc := 32) fX4_16 rb_ob8 rfl dX4_town_32 ?_
    refine rc_callVv X (pc := 35) cvX3_becomes mX4_177 (rb_obT (t := 0) (by decide)) (qX3_becomes (t := 0) (t2 := 1) (by decide) (by decide) (by decide) (M2 := wl (k_town σ).2) (rb_st_at _ _ _)) (by decide) rfl rfl (Nat.le_of_ble_eq_true rfl) dX4_town_35 ?_
    refine rb_aload_n X (pc := 38) dX4_town_38 rfl rfl ?_
    refine rc_getO (q := 3) X (pc := 39) fX4_29 rb_ob8 rfl dX4_town_39 ?_
    refine rb_iconst (v := 0) X (pc := 42) dX4_town_42 (by decide) ?_
    refine rc_put X (pc := 43) fX4_191 gX2_1 rb_ob3 rfl rfl rfl rfl dX4_town_43 ?_
    refine rb_iload_n X (pc := 46) dX4_town_46 rfl rfl ?_
    refine rb_iret (S := []) X (pc := 47) Y dX4_town_47 ?_
    first
    | exact pc_g (CI_L (CI_T (T := sT σ) (CI_A (CI_3 hC (hd (h.1 3) (sL σ) a) hC.2.2.2.2.1 hC.2.2.2.2.2.1) _) (k_town σ).2) 0) rfl rfl (by rw [r_town, if_pos (Int32.not_le.mp c24)]; rfl)
    | exact pc_g (CI_L (CI_A (CI_3 hC (hd (h.1 3) (sL σ) a) hC.2.2.2.2.1 hC.2.2.2.2.2.1) _) 0) rfl rfl (by rw [r_town, if_neg (Int32.not_lt.mpr c24)])
