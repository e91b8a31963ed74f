theorem sp_nfull {T : rb_T} (hn : T 4 0 = nI (sp_n T)) (h : sp_n T < 10) : ¬ (10 : Int32) ≤ T 4 0 := by rw [hn]; exact fun z => absurd ((nI_leI (a := 10) (by omega) (by omega)).mp z) (by omega)
theorem sp_inc (i : Nat) : nI i + Int32.ofInt 1 = nI (i + 1) := nI_1 i
theorem sp_go {Z : rb_Z} {G : rb_G} {nL pc : Nat} {L L' S : List Value} {h h' : rb_H} (e : L = L') (eh : h = h') (k : rb_WP Z G nL pc L' S h') : rb_WP Z G nL pc L S h := by subst e; subst eh; exact k
theorem sp_lod1 {h : rb_H} {t r : Nat} {T : rb_T} (hr : r < sp_n T) (hp : T 9 r = -1) : rb_st h t (u2 (wl T) 9 r (-1)) = tw h t (u2 T 9 r (-1)) := by
  have e := wl_u9 (to := -1) hr (sp_lrow_1 (p := 0) hp).symm
  have : va_up (wl T) 3 (sp_cn T) = wl T := by unfold wl; rw [va_up_up]
  rw [this] at e
  rw [e]
theorem sp_lod2 {h : rb_H} {t r p : Nat} {T : rb_T} (hr : r < sp_n T) (hp1 : p < 8) (hp : T 9 r = nI p) : rb_st h t (u2 (u2 (wl T) 3 p (sp_cn T p - 1)) 9 r (-1)) = tw h t (u2 T 9 r (-1)) := by
  have e := wl_u9 (to := -1) hr (sp_lrow_2 hp1 hp).symm
  exact congrArg (rb_st h t) e
theorem sp_lod3 {h : rb_H} {t r p : Nat} {T : rb_T} (hr : r < sp_n T) (hp : T 9 r = -1) (hp1 : p < 8) : rb_st h t (u2 (u2 (wl T) 3 p (sp_cn T p + 1)) 9 r (nI p)) = tw h t (u2 T 9 r (nI p)) := by
  have e := wl_u9 (to := nI p) hr (sp_lrow_3 hp1 hp).symm
  exact congrArg (rb_st h t) e
theorem sp_lod4 {h : rb_H} {t r p p2 : Nat} {T : rb_T} (hr : r < sp_n T) (hp1 : p < 8) (hp : T 9 r = nI p) (hp2 : p2 < 8) : rb_st h t (u2 (u2 (u2 (wl T) 3 p (sp_cn T p - 1)) 3 p2 (va_up (sp_cn T) p (sp_cn T p - 1) p2 + 1)) 9 r (nI p2)) = tw h t (u2 T 9 r (nI p2)) := by
  have e := wl_u9 (to := nI p2) hr (sp_lrow_4 hp1 hp2 hp).symm
  refine Eq.trans ?_ (congrArg (rb_st h t) e)
  congr 1
  unfold u2
  rw [va_up_up]
  rfl
abbrev sp_pl (x : Int32) : Prop := x = -1 ∨ ∃ p, p < 8 ∧ x = nI p
theorem sp_pl_neg {x : Int32} (h : sp_pl x) (c : x < 0) : x = -1 := by
  rcases h with h | ⟨p, h1, h2⟩
  · exact h
  · exact absurd (h2 ▸ c) (nI_pos (by omega))
theorem sp_pl_pos {x : Int32} (h : sp_pl x) (c : ¬ x < 0) : ∃ p, p < 8 ∧ x = nI p := by
  rcases h with h | h
  · exact absurd (by rw [h]; decide) c
  · exact h
theorem sp_pl_ne {x : Int32} (h : sp_pl x) (c : ¬ x = -1) : ∃ p, p < 8 ∧ x = nI p := by
  rcases h with h | h
  · exact absurd h c
  · exact h
set_option maxRecDepth 100000 in
set_option maxHeartbeats 1000000 in
theorem lpX3_thoseIn_4 {Z : rb_Z} {G : rb_G} {h : rb_H} {t : Nat} {T : rb_T} (ht : t < 3) (hn : T 4 0 = nI (sp_n T)) (hn10 : sp_n T ≤ 10) {p : Int32} (X : rb_CX Z G cX3_thoseIn 4 RX3 0) (Y : rb_RT Z G (some .int) (rb_F (some (.int (sp_those T p (sp_n T)))) (tw h t T))) : ∀ fu : Nat, ∀ i : Nat, i ≤ sp_n T → sp_n T + 1 ≤ i + fu → rb_WP Z G 4 4 [.ref (rb_ad G t 0), .int p, .int (sp_those T p i), .int (nI i)] [] (tw h t T) := by
  intro fu
  induction fu with
  | zero => intro i hi hf; omega
  | succ fu ih =>
    intro i hi hf
    refine rb_iload_n X (pc := 4) dX3_thoseIn_4 rfl rfl ?_
    refine rb_aload_n X (pc := 5) dX3_thoseIn_5 rfl rfl ?_
    refine rc_getI X (pc := 6) fX3_24 (rb_obT ht) rfl rb_tf4 dX3_thoseIn_6 ?_
    refine rb_icmp_ge X (pc := 9) (tgt := 34) dX3_thoseIn_9 (by decide) (fun c9 => ?_) (fun c9 => ?_)
    · have hi2 := (sp_geI hn (by omega) (by omega)).mp c9
      obtain rfl : i = sp_n T := by omega
      refine rb_iload_n X (pc := 34) dX3_thoseIn_34 rfl rfl ?_
      refine rb_iret (S := []) X (pc := 35) Y dX3_thoseIn_35 ?_
      exact ⟨rfl, rfl⟩
    · have hi2 : i < sp_n T := Nat.lt_of_not_le (fun z => c9 ((sp_geI hn (by omega) (by omega)).mpr z))
      refine rb_aload_n X (pc := 12) dX3_thoseIn_12 rfl rfl ?_
      refine rc_getR X (pc := 13) fX3_40 (rb_obT ht) rfl dX3_thoseIn_13 ?_
      refine rb_iload_n X (pc := 16) dX3_thoseIn_16 rfl rfl ?_
      refine rc_iald X (pc := 17) _ (rb_arT9 ht) rb_tj9 rfl (by omega) dX3_thoseIn_17 ?_
      refine rb_iload_n X (pc := 18) dX3_thoseIn_18 rfl rfl ?_
      refine rb_icmp_ne X (pc := 19) (tgt := 28) dX3_thoseIn_19 (by decide) (fun c19 => ?_) (fun c19 => ?_)
      · refine rb_iinc X (pc := 28) dX3_thoseIn_28 rfl (sp_inc _) (by decide) rfl rfl ?_
        refine rb_goto X (pc := 31) (tgt := 4) dX3_thoseIn_31 (by decide) ?_
        exact sp_go (by simp [sp_those, sp_fold_s, *]) rfl (ih (i + 1) (by omega) (by omega))
      · refine rb_iload_n X (pc := 22) dX3_thoseIn_22 rfl rfl ?_
        refine rb_iconst (v := 1) X (pc := 23) dX3_thoseIn_23 (by decide) ?_
        refine rb_iload_n X (pc := 24) dX3_thoseIn_24 rfl rfl ?_
        refine rb_ishl X (pc := 25) dX3_thoseIn_25 ?_
        refine rb_ior X (pc := 26) dX3_thoseIn_26 ?_
        refine rb_istore_n X (pc := 27) dX3_thoseIn_27 rfl (by decide) rfl rfl ?_
        refine rb_iinc X (pc := 28) dX3_thoseIn_28 rfl (sp_inc _) (by decide) rfl rfl ?_
        refine rb_goto X (pc := 31) (tgt := 4) dX3_thoseIn_31 (by decide) ?_
        exact sp_go (by simp [sp_those, sp_fold_s, *]) rfl (ih (i + 1) (by omega) (by omega))
set_option maxRecDepth 100000 in
set_option maxHeartbeats 1000000 in
theorem qX3_thoseIn {G : rb_G} {h : rb_H} {t : Nat} {T : rb_T} (ht : t < 3) (hn : T 4 0 = nI (sp_n T)) (hn10 : sp_n T ≤ 10) (p : Int32) : rb_M G 0 yX3_thoseIn cX3_thoseIn 4 (some .int) [.ref (rb_ad G t 0), .int p] (tw h t T) (rb_F (some (.int (sp_those T p (sp_n T)))) (tw h t T)) := by
  refine rb_meth (L := [.ref (rb_ad G t 0), .int p, .null, .null]) (by decide) (Nat.le_of_ble_eq_true rfl) rfl (fun Z X Y => ?_)
  have X : rb_CX Z G cX3_thoseIn 4 RX3 0 := X
  refine rb_iconst (v := 0) X (pc := 0) dX3_thoseIn_0 (by decide) ?_
  refine rb_istore_n X (pc := 1) dX3_thoseIn_1 rfl (by decide) rfl rfl ?_
  refine rb_iconst (v := 0) X (pc := 2) dX3_thoseIn_2 (by decide) ?_
  refine rb_istore_n X (pc := 3) dX3_thoseIn_3 rfl (by decide) rfl rfl ?_
  exact sp_go rfl rfl (lpX3_thoseIn_4 ht hn hn10 X Y (sp_n T + 1) 0 (by omega) (by omega))
set_option maxRecDepth 100000 in
set_option maxHeartbeats 1000000 in
theorem lpX3_eventsIn_4 {Z : rb_Z} {G : rb_G} {h : rb_H} {t : Nat} {T : rb_T} (ht : t < 3) (hn : T 4 0 = nI (sp_n T)) (hn10 : sp_n T ≤ 10) {p : Int32} (X : rb_CX Z G cX3_eventsIn 4 RX3 0) (Y : rb_RT Z G (some .int) (rb_F (some (.int (sp_evs T p (sp_n T)))) (tw h t T))) : ∀ fu : Nat, ∀ i : Nat, i ≤ sp_n T → sp_n T + 1 ≤ i + fu → rb_WP Z G 4 4 [.ref (rb_ad G t 0), .int p, .int (sp_evs T p i), .int (nI i)] [] (tw h t T) := by
  intro fu
  induction fu with
  | zero => intro i hi hf; omega
  | succ fu ih =>
    intro i hi hf
    refine rb_iload_n X (pc := 4) dX3_eventsIn_4 rfl rfl ?_
    refine rb_aload_n X (pc := 5) dX3_eventsIn_5 rfl rfl ?_
    refine rc_getI X (pc := 6) fX3_24 (rb_obT ht) rfl rb_tf4 dX3_eventsIn_6 ?_
    refine rb_icmp_ge X (pc := 9) (tgt := 39) dX3_eventsIn_9 (by decide) (fun c9 => ?_) (fun c9 => ?_)
    · have hi2 := (sp_geI hn (by omega) (by omega)).mp c9
      obtain rfl : i = sp_n T := by omega
      refine rb_iload_n X (pc := 39) dX3_eventsIn_39 rfl rfl ?_
      refine rb_iret (S := []) X (pc := 40) Y dX3_eventsIn_40 ?_
      exact ⟨rfl, rfl⟩
    · have hi2 : i < sp_n T := Nat.lt_of_not_le (fun z => c9 ((sp_geI hn (by omega) (by omega)).mpr z))
      refine rb_aload_n X (pc := 12) dX3_eventsIn_12 rfl rfl ?_
      refine rc_getR X (pc := 13) fX3_40 (rb_obT ht) rfl dX3_eventsIn_13 ?_
      refine rb_iload_n X (pc := 16) dX3_eventsIn_16 rfl rfl ?_
      refine rc_iald X (pc := 17) _ (rb_arT9 ht) rb_tj9 rfl (by omega) dX3_eventsIn_17 ?_
      refine rb_iload_n X (pc := 18) dX3_eventsIn_18 rfl rfl ?_
      refine rb_icmp_ne X (pc := 19) (tgt := 33) dX3_eventsIn_19 (by decide) (fun c19 => ?_) (fun c19 => ?_)
      · refine rb_iinc X (pc := 33) dX3_eventsIn_33 rfl (sp_inc _) (by decide) rfl rfl ?_
        refine rb_goto X (pc := 36) (tgt := 4) dX3_eventsIn_36 (by decide) ?_
        exact sp_go (by simp [sp_evs, sp_fold_s, *]) rfl (ih (i + 1) (by omega) (by omega))
      · refine rb_iload_n X (pc := 22) dX3_eventsIn_22 rfl rfl ?_
        refine rb_iconst (v := 1) X (pc := 23) dX3_eventsIn_23 (by decide) ?_
        refine rb_aload_n X (pc := 24) dX3_eventsIn_24 rfl rfl ?_
        refine rc_getR X (pc := 25) fX3_31 (rb_obT ht) rfl dX3_eventsIn_25 ?_
        refine rb_iload_n X (pc := 28) dX3_eventsIn_28 rfl rfl ?_
        refine rc_iald X (pc := 29) _ (rb_arT6 ht) rb_tj6 rfl (by omega) dX3_eventsIn_29 ?_
        refine rb_ishl X (pc := 30) dX3_eventsIn_30 ?_
        refine rb_ior X (pc := 31) dX3_eventsIn_31 ?_
        refine rb_istore_n X (pc := 32) dX3_eventsIn_32 rfl (by decide) rfl rfl ?_
        refine rb_iinc X (pc := 33) dX3_eventsIn_33 rfl (sp_inc _) (by decide) rfl rfl ?_
        refine rb_goto X (pc := 36) (tgt := 4) dX3_eventsIn_36 (by decide) ?_
        exact sp_go (by simp [sp_evs, sp_fold_s, *]) rfl (ih (i + 1) (by omega) (by omega))
set_option maxRecDepth 100000 in
set_option maxHeartbeats 1000000 in
theorem qX3_eventsIn {G : rb_G} {h : rb_H} {t : Nat} {T : rb_T} (ht : t < 3) (hn : T 4 0 = nI (sp_n T)) (hn10 : sp_n T ≤ 10) (p : Int32) : rb_M G 0 yX3_eventsIn cX3_eventsIn 4 (some .int) [.ref (rb_ad G t 0), .int p] (tw h t T) (rb_F (some (.int (sp_evs T p (sp_n T)))) (tw h t T)) := by
  refine rb_meth (L := [.ref (rb_ad G t 0), .int p, .null, .null]) (by decide) (Nat.le_of_ble_eq_true rfl) rfl (fun Z X Y => ?_)
  have X : rb_CX Z G cX3_eventsIn 4 RX3 0 := X
  refine rb_iconst (v := 0) X (pc := 0) dX3_eventsIn_0 (by decide) ?_
  refine rb_istore_n X (pc := 1) dX3_eventsIn_1 rfl (by decide) rfl rfl ?_
  refine rb_iconst (v := 0) X (pc := 2) dX3_eventsIn_2 (by decide) ?_
  refine rb_istore_n X (pc := 3) dX3_eventsIn_3 rfl (by decide) rfl rfl ?_
  exact sp_go rfl rfl (lpX3_eventsIn_4 ht hn hn10 X Y (sp_n T + 1) 0 (by omega) (by omega))
set_option maxRecDepth 100000 in
set_option maxHeartbeats 1000000 in
theorem lpX3_eatenIn_4 {Z : rb_Z} {G : rb_G} {h : rb_H} {t : Nat} {T : rb_T} (ht : t < 3) (hn : T 4 0 = nI (sp_n T)) (hn10 : sp_n T ≤ 10) {p : Int32} (X : rb_CX Z G cX3_eatenIn 4 RX3 3) (Y : rb_RT Z G (some .int) (rb_F (some (.int (sp_eat T p (sp_n T)))) (tw h t T))) : ∀ fu : Nat, ∀ i : Nat, i ≤ sp_n T → sp_n T + 1 ≤ i + fu → rb_WP Z G 4 4 [.ref (rb_ad G t 0), .int p, .int (sp_eat T p i), .int (nI i)] [] (tw h t T) := by
  intro fu
  induction fu with
  | zero => intro i hi hf; omega
  | succ fu ih =>
    intro i hi hf
    refine rb_iload_n X (pc := 4) dX3_eatenIn_4 rfl rfl ?_
    refine rb_aload_n X (pc := 5) dX3_eatenIn_5 rfl rfl ?_
    refine rc_getI X (pc := 6) fX3_24 (rb_obT ht) rfl rb_tf4 dX3_eatenIn_6 ?_
    refine rb_icmp_ge X (pc := 9) (tgt := 36) dX3_eatenIn_9 (by decide) (fun c9 => ?_) (fun c9 => ?_)
    · have hi2 := (sp_geI hn (by omega) (by omega)).mp c9
      obtain rfl : i = sp_n T := by omega
      refine rb_iload_n X (pc := 36) dX3_eatenIn_36 rfl rfl ?_
      refine rb_iret (S := []) X (pc := 37) Y dX3_eatenIn_37 ?_
      exact ⟨rfl, rfl⟩
    · have hi2 : i < sp_n T := Nat.lt_of_not_le (fun z => c9 ((sp_geI hn (by omega) (by omega)).mpr z))
      refine rb_aload_n X (pc := 12) dX3_eatenIn_12 rfl rfl ?_
      refine rc_getR X (pc := 13) fX3_40 (rb_obT ht) rfl dX3_eatenIn_13 ?_
      refine rb_iload_n X (pc := 16) dX3_eatenIn_16 rfl rfl ?_
      refine rc_iald X (pc := 17) _ (rb_arT9 ht) rb_tj9 rfl (by omega) dX3_eatenIn_17 ?_
      refine rb_iload_n X (pc := 18) dX3_eatenIn_18 rfl rfl ?_
      refine rb_icmp_ne X (pc := 19) (tgt := 30) dX3_eatenIn_19 (by decide) (fun c19 => ?_) (fun c19 => ?_)
      · refine rb_iinc X (pc := 30) dX3_eatenIn_30 rfl (sp_inc _) (by decide) rfl rfl ?_
        refine rb_goto X (pc := 33) (tgt := 4) dX3_eatenIn_33 (by decide) ?_
        exact sp_go (by simp [sp_eat, sp_fold_s, *]) rfl (ih (i + 1) (by omega) (by omega))
      · refine rb_iload_n X (pc := 22) dX3_eatenIn_22 rfl rfl ?_
        refine rb_aload_n X (pc := 23) dX3_eatenIn_23 rfl rfl ?_
        refine rb_iload_n X (pc := 24) dX3_eatenIn_24 rfl rfl ?_
        refine rc_callVi X (pc := 25) cvX3_eatsOf mX3_109 (rb_obT ht) (qX3_eatsOf ht (by omega)) (by decide) rfl rfl (Nat.le_of_ble_eq_true rfl) dX3_eatenIn_25 ?_
        refine rb_iadd X (pc := 28) dX3_eatenIn_28 ?_
        refine rb_istore_n X (pc := 29) dX3_eatenIn_29 rfl (by decide) rfl rfl ?_
        refine rb_iinc X (pc := 30) dX3_eatenIn_30 rfl (sp_inc _) (by decide) rfl rfl ?_
        refine rb_goto X (pc := 33) (tgt := 4) dX3_eatenIn_33 (by decide) ?_
        exact sp_go (by simp [sp_eat, sp_fold_s, *]) rfl (ih (i + 1) (by omega) (by omega))
set_option maxRecDepth 100000 in
set_option maxHeartbeats 1000000 in
theorem qX3_eatenIn {G : rb_G} {h : rb_H} {t : Nat} {T : rb_T} (ht : t < 3) (hn : T 4 0 = nI (sp_n T)) (hn10 : sp_n T ≤ 10) (p : Int32) : rb_M G 3 yX3_eatenIn cX3_eatenIn 4 (some .int) [.ref (rb_ad G t 0), .int p] (tw h t T) (rb_F (some (.int (sp_eat T p (sp_n T)))) (tw h t T)) := by
  refine rb_meth (L := [.ref (rb_ad G t 0), .int p, .null, .null]) (by decide) (Nat.le_of_ble_eq_true rfl) rfl (fun Z X Y => ?_)
  have X : rb_CX Z G cX3_eatenIn 4 RX3 3 := X
  refine rb_iconst (v := 0) X (pc := 0) dX3_eatenIn_0 (by decide) ?_
  refine rb_istore_n X (pc := 1) dX3_eatenIn_1 rfl (by decide) rfl rfl ?_
  refine rb_iconst (v := 0) X (pc := 2) dX3_eatenIn_2 (by decide) ?_
  refine rb_istore_n X (pc := 3) dX3_eatenIn_3 rfl (by decide) rfl rfl ?_
  exact sp_go rfl rfl (lpX3_eatenIn_4 ht hn hn10 X Y (sp_n T + 1) 0 (by omega) (by omega))
set_option maxRecDepth 100000 in
set_option maxHeartbeats 1000000 in
theorem lpX3_bulkOfAll_4 {Z : rb_Z} {G : rb_G} {h : rb_H} {t : Nat} {T : rb_T} (ht : t < 3) (hn : T 4 0 = nI (sp_n T)) (hn10 : sp_n T ≤ 10) (X : rb_CX Z G cX3_bulkOfAll 3 RX3 0) (Y : rb_RT Z G (some .int) (rb_F (some (.int (sp_bulks T (sp_n T)))) (tw h t T))) : ∀ fu : Nat, ∀ i : Nat, i ≤ sp_n T → sp_n T + 1 ≤ i + fu → rb_WP Z G 3 4 [.ref (rb_ad G t 0), .int (sp_bulks T i), .int (nI i)] [] (tw h t T) := by
  intro fu
  induction fu with
  | zero => intro i hi hf; omega
  | succ fu ih =>
    intro i hi hf
    refine rb_iload_n X (pc := 4) dX3_bulkOfAll_4 rfl rfl ?_
    refine rb_aload_n X (pc := 5) dX3_bulkOfAll_5 rfl rfl ?_
    refine rc_getI X (pc := 6) fX3_24 (rb_obT ht) rfl rb_tf4 dX3_bulkOfAll_6 ?_
    refine rb_icmp_ge X (pc := 9) (tgt := 27) dX3_bulkOfAll_9 (by decide) (fun c9 => ?_) (fun c9 => ?_)
    · have hi2 := (sp_geI hn (by omega) (by omega)).mp c9
      obtain rfl : i = sp_n T := by omega
      refine rb_iload_n X (pc := 27) dX3_bulkOfAll_27 rfl rfl ?_
      refine rb_iret (S := []) X (pc := 28) Y dX3_bulkOfAll_28 ?_
      exact ⟨rfl, rfl⟩
    · have hi2 : i < sp_n T := Nat.lt_of_not_le (fun z => c9 ((sp_geI hn (by omega) (by omega)).mpr z))
      refine rb_iload_n X (pc := 12) dX3_bulkOfAll_12 rfl rfl ?_
      refine rb_aload_n X (pc := 13) dX3_bulkOfAll_13 rfl rfl ?_
      refine rc_getR X (pc := 14) fX3_34 (rb_obT ht) rfl dX3_bulkOfAll_14 ?_
      refine rb_iload_n X (pc := 17) dX3_bulkOfAll_17 rfl rfl ?_
      refine rc_iald X (pc := 18) _ (rb_arT7 ht) rb_tj7 rfl (by omega) dX3_bulkOfAll_18 ?_
      refine rb_iadd X (pc := 19) dX3_bulkOfAll_19 ?_
      refine rb_istore_n X (pc := 20) dX3_bulkOfAll_20 rfl (by decide) rfl rfl ?_
      refine rb_iinc X (pc := 21) dX3_bulkOfAll_21 rfl (sp_inc _) (by decide) rfl rfl ?_
      refine rb_goto X (pc := 24) (tgt := 4) dX3_bulkOfAll_24 (by decide) ?_
      exact sp_go (by simp [sp_bulks, sp_fold_s]) rfl (ih (i + 1) (by omega) (by omega))
set_option maxRecDepth 100000 in
set_option maxHeartbeats 1000000 in
theorem qX3_bulkOfAll {G : rb_G} {h : rb_H} {t : Nat} {T : rb_T} (ht : t < 3) (hn : T 4 0 = nI (sp_n T)) (hn10 : sp_n T ≤ 10) : rb_M G 0 yX3_bulkOfAll cX3_bulkOfAll 3 (some .int) [.ref (rb_ad G t 0)] (tw h t T) (rb_F (some (.int (sp_bulks T (sp_n T)))) (tw h t T)) := by
  refine rb_meth (L := [.ref (rb_ad G t 0), .null, .null]) (by decide) (Nat.le_of_ble_eq_true rfl) rfl (fun Z X Y => ?_)
  have X : rb_CX Z G cX3_bulkOfAll 3 RX3 0 := X
  refine rb_iconst (v := 0) X (pc := 0) dX3_bulkOfAll_0 (by decide) ?_
  refine rb_istore_n X (pc := 1) dX3_bulkOfAll_1 rfl (by decide) rfl rfl ?_
  refine rb_iconst (v := 0) X (pc := 2) dX3_bulkOfAll_2 (by decide) ?_
  refine rb_istore_n X (pc := 3) dX3_bulkOfAll_3 rfl (by decide) rfl rfl ?_
  exact sp_go rfl rfl (lpX3_bulkOfAll_4 ht hn hn10 X Y (sp_n T + 1) 0 (by omega) (by omega))
set_option maxRecDepth 100000 in
set_option maxHeartbeats 1000000 in
theorem lpX3_eatenInAll_4 {Z : rb_Z} {G : rb_G} {h : rb_H} {t : Nat} {T : rb_T} (ht : t < 3) (hn : T 4 0 = nI (sp_n T)) (hn10 : sp_n T ≤ 10) (X : rb_CX Z G cX3_eatenInAll 3 RX3 4) (Y : rb_RT Z G (some .int) (rb_F (some (.int (sp_eatA T 8))) (tw h t T))) : ∀ fu : Nat, ∀ i : Nat, i ≤ 8 → 9 ≤ i + fu → rb_WP Z G 3 4 [.ref (rb_ad G t 0), .int (sp_eatA T i), .int (nI i)] [] (tw h t T) := by
  intro fu
  induction fu with
  | zero => intro i hi hf; omega
  | succ fu ih =>
    intro i hi hf
    refine rb_iload_n X (pc := 4) dX3_eatenInAll_4 rfl rfl ?_
    refine rb_bipush (v := 8) X (pc := 5) dX3_eatenInAll_5 (by decide) ?_
    refine rb_icmp_ge X (pc := 7) (tgt := 24) dX3_eatenInAll_7 (by decide) (fun c7 => ?_) (fun c7 => ?_)
    · have hi2 := (sp_geI (n := 8) rfl (by omega) (by omega)).mp c7
      obtain rfl : i = 8 := by omega
      refine rb_iload_n X (pc := 24) dX3_eatenInAll_24 rfl rfl ?_
      refine rb_iret (S := []) X (pc := 25) Y dX3_eatenInAll_25 ?_
      exact ⟨rfl, rfl⟩
    · have hi2 : i < 8 := Nat.lt_of_not_le (fun z => c7 ((sp_geI (n := 8) rfl (by omega) (by omega)).mpr z))
      refine rb_iload_n X (pc := 10) dX3_eatenInAll_10 rfl rfl ?_
      refine rb_aload_n X (pc := 11) dX3_eatenInAll_11 rfl rfl ?_
      refine rb_iload_n X (pc := 12) dX3_eatenInAll_12 rfl rfl ?_
      refine rc_callVi X (pc := 13) cvX3_eatenIn mX3_124 (rb_obT ht) (qX3_eatenIn ht (by assumption) (by assumption) _) (by decide) rfl rfl (Nat.le_of_ble_eq_true rfl) dX3_eatenInAll_13 ?_
      refine rb_iadd X (pc := 16) dX3_eatenInAll_16 ?_
      refine rb_istore_n X (pc := 17) dX3_eatenInAll_17 rfl (by decide) rfl rfl ?_
      refine rb_iinc X (pc := 18) dX3_eatenInAll_18 rfl (sp_inc _) (by decide) rfl rfl ?_
      refine rb_goto X (pc := 21) (tgt := 4) dX3_eatenInAll_21 (by decide) ?_
      exact sp_go (by simp [sp_eatA, sp_fold_s]) rfl (ih (i + 1) (by omega) (by omega))
set_option maxRecDepth 100000 in
set_option maxHeartbeats 1000000 in
theorem qX3_eatenInAll {G : rb_G} {h : rb_H} {t : Nat} {T : rb_T} (ht : t < 3) (hn : T 4 0 = nI (sp_n T)) (hn10 : sp_n T ≤ 10) : rb_M G 4 yX3_eatenInAll cX3_eatenInAll 3 (some .int) [.ref (rb_ad G t 0)] (tw h t T) (rb_F (some (.int (sp_eatA T 8))) (tw h t T)) := by
  refine rb_meth (L := [.ref (rb_ad G t 0), .null, .null]) (by decide) (Nat.le_of_ble_eq_true rfl) rfl (fun Z X Y => ?_)
  have X : rb_CX Z G cX3_eatenInAll 3 RX3 4 := X
  refine rb_iconst (v := 0) X (pc := 0) dX3_eatenInAll_0 (by decide) ?_
  refine rb_istore_n X (pc := 1) dX3_eatenInAll_1 rfl (by decide) rfl rfl ?_
  refine rb_iconst (v := 0) X (pc := 2) dX3_eatenInAll_2 (by decide) ?_
  refine rb_istore_n X (pc := 3) dX3_eatenInAll_3 rfl (by decide) rfl rfl ?_
  exact sp_go rfl rfl (lpX3_eatenInAll_4 ht hn hn10 X Y 9 0 (by omega) (by omega))
set_option maxRecDepth 100000 in
set_option maxHeartbeats 1000000 in
theorem lpX3_freeBeds_4 {Z : rb_Z} {G : rb_G} {h : rb_H} {t : Nat} {T : rb_T} (ht : t < 3)  (X : rb_CX Z G cX3_freeBeds 3 RX3 1) (Y : rb_RT Z G (some .int) (rb_F (some (.int (sp_fb T 8))) (tw h t T))) : ∀ fu : Nat, ∀ i : Nat, i ≤ 8 → 9 ≤ i + fu → rb_WP Z G 3 4 [.ref (rb_ad G t 0), .int (sp_fb T i), .int (nI i)] [] (tw h t T) := by
  intro fu
  induction fu with
  | zero => intro i hi hf; omega
  | succ fu ih =>
    intro i hi hf
    refine rb_iload_n X (pc := 4) dX3_freeBeds_4 rfl rfl ?_
    refine rb_bipush (v := 8) X (pc := 5) dX3_freeBeds_5 (by decide) ?_
    refine rb_icmp_ge X (pc := 7) (tgt := 36) dX3_freeBeds_7 (by decide) (fun c7 => ?_) (fun c7 => ?_)
    · have hi2 := (sp_geI (n := 8) rfl (by omega) (by omega)).mp c7
      obtain rfl : i = 8 := by omega
      refine rb_iload_n X (pc := 36) dX3_freeBeds_36 rfl rfl ?_
      refine rb_iret (S := []) X (pc := 37) Y dX3_freeBeds_37 ?_
      exact ⟨rfl, rfl⟩
    · have hi2 : i < 8 := Nat.lt_of_not_le (fun z => c7 ((sp_geI (n := 8) rfl (by omega) (by omega)).mpr z))
      refine rb_iload_n X (pc := 10) dX3_freeBeds_10 rfl rfl ?_
      refine rb_iconst (v := 0) X (pc := 11) dX3_freeBeds_11 (by decide) ?_
      refine rb_aload_n X (pc := 12) dX3_freeBeds_12 rfl rfl ?_
      refine rc_getR X (pc := 13) fX3_9 (rb_obT ht) rfl dX3_freeBeds_13 ?_
      refine rb_iload_n X (pc := 16) dX3_freeBeds_16 rfl rfl ?_
      refine rc_iald X (pc := 17) _ (rb_arT0 ht) rb_tj0 rfl (by omega) dX3_freeBeds_17 ?_
      refine rb_aload_n X (pc := 18) dX3_freeBeds_18 rfl rfl ?_
      refine rc_getR X (pc := 19) fX3_21 (rb_obT ht) rfl dX3_freeBeds_19 ?_
      refine rb_iload_n X (pc := 22) dX3_freeBeds_22 rfl rfl ?_
      refine rc_iald X (pc := 23) _ (rb_arT3 ht) rb_tj3 rfl (by omega) dX3_freeBeds_23 ?_
      refine rb_isub X (pc := 24) dX3_freeBeds_24 ?_
      refine rc_mmax X (pc := 25) mX3_127 (by decide) (Nat.le_of_ble_eq_true rfl) dX3_freeBeds_25 ?_
      refine rb_iadd X (pc := 28) dX3_freeBeds_28 ?_
      refine rb_istore_n X (pc := 29) dX3_freeBeds_29 rfl (by decide) rfl rfl ?_
      refine rb_iinc X (pc := 30) dX3_freeBeds_30 rfl (sp_inc _) (by decide) rfl rfl ?_
      refine rb_goto X (pc := 33) (tgt := 4) dX3_freeBeds_33 (by decide) ?_
      exact sp_go (by simp [sp_fb, sp_fold_s]) rfl (ih (i + 1) (by omega) (by omega))
set_option maxRecDepth 100000 in
set_option maxHeartbeats 1000000 in
theorem qX3_freeBeds {G : rb_G} {h : rb_H} {t : Nat} {T : rb_T} (ht : t < 3)  : rb_M G 1 yX3_freeBeds cX3_freeBeds 3 (some .int) [.ref (rb_ad G t 0)] (tw h t T) (rb_F (some (.int (sp_fb T 8))) (tw h t T)) := by
  refine rb_meth (L := [.ref (rb_ad G t 0), .null, .null]) (by decide) (Nat.le_of_ble_eq_true rfl) rfl (fun Z X Y => ?_)
  have X : rb_CX Z G cX3_freeBeds 3 RX3 1 := X
  refine rb_iconst (v := 0) X (pc := 0) dX3_freeBeds_0 (by decide) ?_
  refine rb_istore_n X (pc := 1) dX3_freeBeds_1 rfl (by decide) rfl rfl ?_
  refine rb_iconst (v := 0) X (pc := 2) dX3_freeBeds_2 (by decide) ?_
  refine rb_istore_n X (pc := 3) dX3_freeBeds_3 rfl (by decide) rfl rfl ?_
  exact sp_go rfl rfl (lpX3_freeBeds_4 ht X Y 9 0 (by omega) (by omega))
set_option maxRecDepth 100000 in
set_option maxHeartbeats 1000000 in
theorem lpX3_isOnRoad_2 {Z : rb_Z} {G : rb_G} {h : rb_H} {t : Nat} {T : rb_T} (ht : t < 3) (hn : T 4 0 = nI (sp_n T)) (hn10 : sp_n T ≤ 10) {e : Int32} (X : rb_CX Z G cX3_isOnRoad 3 RX3 0) (Y : rb_RT Z G (some .boolean) (rb_F (some (.int (if sp_onr T e (sp_n T) = true then 1 else 0))) (tw h t T))) : ∀ fu : Nat, ∀ i : Nat, i ≤ sp_n T → sp_n T + 1 ≤ i + fu → sp_onr T e i = false → rb_WP Z G 3 2 [.ref (rb_ad G t 0), .int e, .int (nI i)] [] (tw h t T) := by
  intro fu
  induction fu with
  | zero => intro i hi hf ho; omega
  | succ fu ih =>
    intro i hi hf ho
    refine rb_iload_n X (pc := 2) dX3_isOnRoad_2 rfl rfl ?_
    refine rb_aload_n X (pc := 3) dX3_isOnRoad_3 rfl rfl ?_
    refine rc_getI X (pc := 4) fX3_24 (rb_obT ht) rfl rb_tf4 dX3_isOnRoad_4 ?_
    refine rb_icmp_ge X (pc := 7) (tgt := 38) dX3_isOnRoad_7 (by decide) (fun c7 => ?_) (fun c7 => ?_)
    · have hi2 := (sp_geI hn (by omega) (by omega)).mp c7
      obtain rfl : i = sp_n T := by omega
      refine rb_iconst (v := 0) X (pc := 38) dX3_isOnRoad_38 (by decide) ?_
      refine rb_zret (S := []) X (pc := 39) Y dX3_isOnRoad_39 rfl ?_
      exact ⟨by rw [ho]; rfl, rfl⟩
    · have hi2 : i < sp_n T := Nat.lt_of_not_le (fun z => c7 ((sp_geI hn (by omega) (by omega)).mpr z))
      refine rb_aload_n X (pc := 10) dX3_isOnRoad_10 rfl rfl ?_
      refine rc_getR X (pc := 11) fX3_40 (rb_obT ht) rfl dX3_isOnRoad_11 ?_
      refine rb_iload_n X (pc := 14) dX3_isOnRoad_14 rfl rfl ?_
      refine rc_iald X (pc := 15) _ (rb_arT9 ht) rb_tj9 rfl (by omega) dX3_isOnRoad_15 ?_
      refine rb_iconst (v := (-1)) X (pc := 16) dX3_isOnRoad_16 (by decide) ?_
      refine rb_icmp_ne X (pc := 17) (tgt := 32) dX3_isOnRoad_17 (by decide) (fun c17 => ?_) (fun c17 => ?_)
      · refine rb_iinc X (pc := 32) dX3_isOnRoad_32 rfl (sp_inc _) (by decide) rfl rfl ?_
        refine rb_goto X (pc := 35) (tgt := 2) dX3_isOnRoad_35 (by decide) ?_
        exact ih (i + 1) (by omega) (by omega) (by unfold sp_onr sp_any; unfold sp_onr at ho; rw [ho]; simp_all)
      · refine rb_aload_n X (pc := 20) dX3_isOnRoad_20 rfl rfl ?_
        refine rc_getR X (pc := 21) fX3_31 (rb_obT ht) rfl dX3_isOnRoad_21 ?_
        refine rb_iload_n X (pc := 24) dX3_isOnRoad_24 rfl rfl ?_
        refine rc_iald X (pc := 25) _ (rb_arT6 ht) rb_tj6 rfl (by omega) dX3_isOnRoad_25 ?_
        refine rb_iload_n X (pc := 26) dX3_isOnRoad_26 rfl rfl ?_
        refine rb_icmp_ne X (pc := 27) (tgt := 32) dX3_isOnRoad_27 (by decide) (fun c27 => ?_) (fun c27 => ?_)
        · refine rb_iinc X (pc := 32) dX3_isOnRoad_32 rfl (sp_inc _) (by decide) rfl rfl ?_
          refine rb_goto X (pc := 35) (tgt := 2) dX3_isOnRoad_35 (by decide) ?_
          exact ih (i + 1) (by omega) (by omega) (by unfold sp_onr sp_any; unfold sp_onr at ho; rw [ho]; simp_all)
        · refine rb_iconst (v := 1) X (pc := 30) dX3_isOnRoad_30 (by decide) ?_
          refine rb_zret (S := []) X (pc := 31) Y dX3_isOnRoad_31 rfl ?_
          exact ⟨by rw [if_pos (show sp_onr T e (sp_n T) = true from (sp_any_iff _ _).mpr ⟨i, hi2, by simp_all⟩)], rfl⟩
set_option maxRecDepth 100000 in
set_option maxHeartbeats 1000000 in
theorem qX3_isOnRoad {G : rb_G} {h : rb_H} {t : Nat} {T : rb_T} (ht : t < 3) (hn : T 4 0 = nI (sp_n T)) (hn10 : sp_n T ≤ 10) (e : Int32) : rb_M G 0 yX3_isOnRoad cX3_isOnRoad 3 (some .boolean) [.ref (rb_ad G t 0), .int e] (tw h t T) (rb_F (some (.int (if sp_onr T e (sp_n T) = true then 1 else 0))) (tw h t T)) := by
  refine rb_meth (L := [.ref (rb_ad G t 0), .int e, .null]) (by decide) (Nat.le_of_ble_eq_true rfl) rfl (fun Z X Y => ?_)
  have X : rb_CX Z G cX3_isOnRoad 3 RX3 0 := X
  refine rb_iconst (v := 0) X (pc := 0) dX3_isOnRoad_0 (by decide) ?_
  refine rb_istore_n X (pc := 1) dX3_isOnRoad_1 rfl (by decide) rfl rfl ?_
  exact sp_go rfl rfl (lpX3_isOnRoad_2 ht hn hn10 X Y (sp_n T + 1) 0 (by omega) (by omega) rfl)
set_option maxRecDepth 100000 in
set_option maxHeartbeats 1000000 in
theorem lpX3_hostFor_26 {Z : rb_Z} {G : rb_G} {h : rb_H} {t : Nat} {T : rb_T} (ht : t < 3) {r : Nat} (hc : ¬ sp_tr T (T 6 r)) (X : rb_CX Z G cX3_hostFor 5 RX3 2) (Y : rb_RT Z G (some .int) (rb_F (some (.int (sp_host T r))) (tw h t T))) : ∀ fu : Nat, ∀ i : Nat, i ≤ 8 → 9 ≤ i + fu → rb_WP Z G 5 26 [.ref (rb_ad G t 0), .int (nI r), .int (sp_hostF T (sp_nR T r) i), .int (sp_nR T r), .int (nI i)] [] (tw h t T) := by
  intro fu
  induction fu with
  | zero => intro i hi hf; omega
  | succ fu ih =>
    intro i hi hf
    refine rb_iload X (pc := 26) dX3_hostFor_26 rfl ?_
    refine rb_bipush (v := 8) X (pc := 28) dX3_hostFor_28 (by decide) ?_
    refine rb_icmp_ge X (pc := 30) (tgt := 73) dX3_hostFor_30 (by decide) (fun c30 => ?_) (fun c30 => ?_)
    · have hi2 := (sp_geI (n := 8) rfl (by omega) (by omega)).mp c30
      obtain rfl : i = 8 := by omega
      refine rb_iload_n X (pc := 73) dX3_hostFor_73 rfl rfl ?_
      refine rb_iret (S := []) X (pc := 74) Y dX3_hostFor_74 ?_
      exact ⟨by simp [sp_host, hc], rfl⟩
    · have hi2 : i < 8 := Nat.lt_of_not_le (fun z => c30 ((sp_geI (n := 8) rfl (by omega) (by omega)).mpr z))
      refine rb_aload_n X (pc := 33) dX3_hostFor_33 rfl rfl ?_
      refine rb_iload X (pc := 34) dX3_hostFor_34 rfl ?_
      refine rb_iload_n X (pc := 36) dX3_hostFor_36 rfl rfl ?_
      refine rc_callVi X (pc := 37) cvX3_wouldTake mX3_83 (rb_obT ht) (qX3_wouldTake ht (by omega) _) (by decide) rfl rfl (Nat.le_of_ble_eq_true rfl) dX3_hostFor_37 ?_
      refine rb_if_eq X (pc := 40) (tgt := 67) dX3_hostFor_40 (by decide) (fun c40 => ?_) (fun c40 => ?_)
      · (try simp only [sp_b0, Classical.not_not] at c40)
        refine rb_iinc X (pc := 67) dX3_hostFor_67 rfl (sp_inc _) (by decide) rfl rfl ?_
        refine rb_goto X (pc := 70) (tgt := 26) dX3_hostFor_70 (by decide) ?_
        refine sp_go ?_ rfl (ih (i + 1) (by omega) (by omega))
        first
        | simp [sp_hostF_s, c40, c45, c61b]
        | simp [sp_hostF_s, c40, c45]
        | simp [sp_hostF_s, c40]
      · (try simp only [sp_b0, Classical.not_not] at c40)
        refine rb_iload_n X (pc := 43) dX3_hostFor_43 rfl rfl ?_
        refine rb_iconst (v := (-1)) X (pc := 44) dX3_hostFor_44 (by decide) ?_
        refine rb_icmp_eq X (pc := 45) (tgt := 64) dX3_hostFor_45 (by decide) (fun c45 => ?_) (fun c45 => ?_)
        · refine rb_iload X (pc := 64) dX3_hostFor_64 rfl ?_
          refine rb_istore_n X (pc := 66) dX3_hostFor_66 rfl (by decide) rfl rfl ?_
          refine rb_iinc X (pc := 67) dX3_hostFor_67 rfl (sp_inc _) (by decide) rfl rfl ?_
          refine rb_goto X (pc := 70) (tgt := 26) dX3_hostFor_70 (by decide) ?_
          refine sp_go ?_ rfl (ih (i + 1) (by omega) (by omega))
          first
          | simp [sp_hostF_s, c40, c45, c61b]
          | simp [sp_hostF_s, c40, c45]
          | simp [sp_hostF_s, c40]
        · obtain ⟨p, hp1, hp⟩ : ∃ p, p < i ∧ sp_hostF T (sp_nR T r) i = nI p := (sp_hostF_ok T (sp_nR T r) i (by omega)).resolve_left c45
          refine rb_aload_n X (pc := 48) dX3_hostFor_48 rfl rfl ?_
          refine rc_getR X (pc := 49) fX3_18 (rb_obT ht) rfl dX3_hostFor_49 ?_
          refine rb_iload X (pc := 52) dX3_hostFor_52 rfl ?_
          refine rc_iald X (pc := 54) _ (rb_arT2 ht) rb_tj2 rfl (by omega) dX3_hostFor_54 ?_
          refine rb_aload_n X (pc := 55) dX3_hostFor_55 rfl rfl ?_
          refine rc_getR X (pc := 56) fX3_18 (rb_obT ht) rfl dX3_hostFor_56 ?_
          refine rb_iload_n X (pc := 59) dX3_hostFor_59 rfl rfl ?_
          refine rc_iald X (pc := 60) p (rb_arT2 ht) rb_tj2 hp (by omega) dX3_hostFor_60 ?_
          refine rb_icmp_le X (pc := 61) (tgt := 67) dX3_hostFor_61 (by decide) (fun c61 => ?_) (fun c61 => ?_)
          · have c61b : ¬ T 2 (sp_hostF T (sp_nR T r) i).toNatClampNeg < T 2 i := by rw [hp, nI_clamp (by omega)]; exact Int32.not_lt.mpr c61
            refine rb_iinc X (pc := 67) dX3_hostFor_67 rfl (sp_inc _) (by decide) rfl rfl ?_
            refine rb_goto X (pc := 70) (tgt := 26) dX3_hostFor_70 (by decide) ?_
            refine sp_go ?_ rfl (ih (i + 1) (by omega) (by omega))
            first
            | simp [sp_hostF_s, c40, c45, c61b]
            | simp [sp_hostF_s, c40, c45]
            | simp [sp_hostF_s, c40]
          · have c61b : T 2 (sp_hostF T (sp_nR T r) i).toNatClampNeg < T 2 i := by rw [hp, nI_clamp (by omega)]; exact Int32.not_le.mp c61
            refine rb_iload X (pc := 64) dX3_hostFor_64 rfl ?_
            refine rb_istore_n X (pc := 66) dX3_hostFor_66 rfl (by decide) rfl rfl ?_
            refine rb_iinc X (pc := 67) dX3_hostFor_67 rfl (sp_inc _) (by decide) rfl rfl ?_
            refine rb_goto X (pc := 70) (tgt := 26) dX3_hostFor_70 (by decide) ?_
            refine sp_go ?_ rfl (ih (i + 1) (by omega) (by omega))
            first
            | simp [sp_hostF_s, c40, c45, c61b]
            | simp [sp_hostF_s, c40, c45]
            | simp [sp_hostF_s, c40]
set_option maxRecDepth 100000 in
set_option maxHeartbeats 1000000 in
theorem qX3_hostFor {G : rb_G} {h : rb_H} {t : Nat} {T : rb_T} (ht : t < 3) {r : Nat} (hr : r < 10) : rb_M G 2 yX3_hostFor cX3_hostFor 5 (some .int) [.ref (rb_ad G t 0), .int (nI r)] (tw h t T) (rb_F (some (.int (sp_host T r))) (tw h t T)) := by
  refine rb_meth (L := [.ref (rb_ad G t 0), .int (nI r), .null, .null, .null]) (by decide) (Nat.le_of_ble_eq_true rfl) rfl (fun Z X Y => ?_)
  have X : rb_CX Z G cX3_hostFor 5 RX3 2 := X
  refine rb_iconst (v := (-1)) X (pc := 0) dX3_hostFor_0 (by decide) ?_
  refine rb_istore_n X (pc := 1) dX3_hostFor_1 rfl (by decide) rfl rfl ?_
  refine rb_aload_n X (pc := 2) dX3_hostFor_2 rfl rfl ?_
  refine rb_aload_n X (pc := 3) dX3_hostFor_3 rfl rfl ?_
  refine rc_getR X (pc := 4) fX3_31 (rb_obT ht) rfl dX3_hostFor_4 ?_
  refine rb_iload_n X (pc := 7) dX3_hostFor_7 rfl rfl ?_
  refine rc_iald X (pc := 8) _ (rb_arT6 ht) rb_tj6 rfl (by omega) dX3_hostFor_8 ?_
  refine rc_callVi X (pc := 9) cvX3_isTrue mX3_76 (rb_obT ht) (qX3_isTrue ht _) (by decide) rfl rfl (Nat.le_of_ble_eq_true rfl) dX3_hostFor_9 ?_
  refine rb_if_eq X (pc := 12) (tgt := 17) dX3_hostFor_12 (by decide) (fun c12 => ?_) (fun c12 => ?_)
  · (try simp only [sp_b0, Classical.not_not] at c12)
    refine rb_aload_n X (pc := 17) dX3_hostFor_17 rfl rfl ?_
    refine rb_iload_n X (pc := 18) dX3_hostFor_18 rfl rfl ?_
    refine rc_callVi X (pc := 19) cvX3_needsOf mX3_79 (rb_obT ht) (qX3_needsOf ht (by omega)) (by decide) rfl rfl (Nat.le_of_ble_eq_true rfl) dX3_hostFor_19 ?_
    refine rb_istore_n X (pc := 22) dX3_hostFor_22 rfl (by decide) rfl rfl ?_
    refine rb_iconst (v := 0) X (pc := 23) dX3_hostFor_23 (by decide) ?_
    refine rb_istore X (pc := 24) dX3_hostFor_24 (by decide) rfl rfl ?_
    exact sp_go rfl rfl (lpX3_hostFor_26 ht (fun z => z c12) X Y 9 0 (by omega) (by omega))
  · (try simp only [sp_b0, Classical.not_not] at c12)
    refine rb_iload_n X (pc := 15) dX3_hostFor_15 rfl rfl ?_
    refine rb_iret (S := []) X (pc := 16) Y dX3_hostFor_16 ?_
    exact ⟨by simp [sp_host, c12], rfl⟩
set_option maxRecDepth 100000 in
set_option maxHeartbeats 1000000 in
theorem qX3_lodge {G : rb_G} {h : rb_H} {t : Nat} {T : rb_T} (ht : t < 3) {r : Nat} {to : Int32} (hr : r < sp_n T) (hn10 : sp_n T ≤ 10) (hpl : sp_pl (T 9 r)) (hto : sp_pl to) : rb_M G 0 yX3_lodge cX3_lodge 4 none [.ref (rb_ad G t 0), .int (nI r), .int to] (tw h t T) (rb_F none (tw h t (u2 T 9 r to))) := by
  refine rb_meth (L := [.ref (rb_ad G t 0), .int (nI r), .int to, .null]) (by decide) (Nat.le_of_ble_eq_true rfl) rfl (fun Z X Y => ?_)
  have X : rb_CX Z G cX3_lodge 4 RX3 0 := X
  refine rb_aload_n X (pc := 0) dX3_lodge_0 rfl rfl ?_
  refine rc_getR X (pc := 1) fX3_40 (rb_obT ht) rfl dX3_lodge_1 ?_
  refine rb_iload_n X (pc := 4) dX3_lodge_4 rfl rfl ?_
  refine rc_iald X (pc := 5) _ (rb_arT9 ht) rb_tj9 rfl (by omega) dX3_lodge_5 ?_
  refine rb_istore_n X (pc := 6) dX3_lodge_6 rfl (by decide) rfl rfl ?_
  refine rb_iload_n X (pc := 7) dX3_lodge_7 rfl rfl ?_
  refine rb_if_lt X (pc := 8) (tgt := 21) dX3_lodge_8 (by decide) (fun c8 => ?_) (fun c8 => ?_)
  · have hp := sp_pl_neg hpl c8
    refine rb_iload_n X (pc := 21) dX3_lodge_21 rfl rfl ?_
    refine rb_if_lt X (pc := 22) (tgt := 35) dX3_lodge_22 (by decide) (fun c22 => ?_) (fun c22 => ?_)
    · have hp2 := sp_pl_neg hto c22
      subst hp2
      refine rb_aload_n X (pc := 35) dX3_lodge_35 rfl rfl ?_
      refine rc_getR X (pc := 36) fX3_40 (rb_obT ht) rfl dX3_lodge_36 ?_
      refine rb_iload_n X (pc := 39) dX3_lodge_39 rfl rfl ?_
      refine rb_iload_n X (pc := 40) dX3_lodge_40 rfl rfl ?_
      refine rc_iast X (pc := 41) _ (rb_arT9 ht) rb_u_st rfl (by omega) dX3_lodge_41 ?_
      refine rb_vret (S := []) X (pc := 42) Y dX3_lodge_42 ?_
      exact ⟨rfl, by first | exact sp_lod1 hr hp | exact sp_lod2 hr hp1 hp | exact sp_lod3 hr hp hp21 | exact sp_lod4 hr hp1 hp hp21⟩
    · obtain ⟨p2, hp21, rfl⟩ := sp_pl_pos hto c22
      refine rb_aload_n X (pc := 25) dX3_lodge_25 rfl rfl ?_
      refine rc_getR X (pc := 26) fX3_21 (rb_obT ht) rfl dX3_lodge_26 ?_
      refine rb_iload_n X (pc := 29) dX3_lodge_29 rfl rfl ?_
      refine rb_dup2 X (pc := 30) dX3_lodge_30 rfl rfl ?_
      refine rc_iald X (pc := 31) p2 (rb_arT3 ht) (congrFun (rb_st_at _ _ _) 3) rfl hp21 dX3_lodge_31 ?_
      refine rb_iconst (v := 1) X (pc := 32) dX3_lodge_32 (by decide) ?_
      refine rb_iadd X (pc := 33) dX3_lodge_33 ?_
      refine rc_iast X (pc := 34) p2 (rb_arT3 ht) rb_u_st rfl hp21 dX3_lodge_34 ?_
      refine rb_aload_n X (pc := 35) dX3_lodge_35 rfl rfl ?_
      refine rc_getR X (pc := 36) fX3_40 (rb_obT ht) rfl dX3_lodge_36 ?_
      refine rb_iload_n X (pc := 39) dX3_lodge_39 rfl rfl ?_
      refine rb_iload_n X (pc := 40) dX3_lodge_40 rfl rfl ?_
      refine rc_iast X (pc := 41) _ (rb_arT9 ht) rb_u_st rfl (by omega) dX3_lodge_41 ?_
      refine rb_vret (S := []) X (pc := 42) Y dX3_lodge_42 ?_
      exact ⟨rfl, by first | exact sp_lod1 hr hp | exact sp_lod2 hr hp1 hp | exact sp_lod3 hr hp hp21 | exact sp_lod4 hr hp1 hp hp21⟩
  · obtain ⟨p, hp1, hp⟩ := sp_pl_pos hpl c8
    refine rb_aload_n X (pc := 11) dX3_lodge_11 rfl rfl ?_
    refine rc_getR X (pc := 12) fX3_21 (rb_obT ht) rfl dX3_lodge_12 ?_
    refine rb_iload_n X (pc := 15) dX3_lodge_15 rfl rfl ?_
    refine rb_dup2 X (pc := 16) dX3_lodge_16 rfl rfl ?_
    refine rc_iald X (pc := 17) p (rb_arT3 ht) rb_tj3 hp hp1 dX3_lodge_17 ?_
    refine rb_iconst (v := 1) X (pc := 18) dX3_lodge_18 (by decide) ?_
    refine rb_isub X (pc := 19) dX3_lodge_19 ?_
    refine rc_iast X (pc := 20) p (rb_arT3 ht) rb_u_st hp hp1 dX3_lodge_20 ?_
    refine rb_iload_n X (pc := 21) dX3_lodge_21 rfl rfl ?_
    refine rb_if_lt X (pc := 22) (tgt := 35) dX3_lodge_22 (by decide) (fun c22 => ?_) (fun c22 => ?_)
    · have hp2 := sp_pl_neg hto c22
      subst hp2
      refine rb_aload_n X (pc := 35) dX3_lodge_35 rfl rfl ?_
      refine rc_getR X (pc := 36) fX3_40 (rb_obT ht) rfl dX3_lodge_36 ?_
      refine rb_iload_n X (pc := 39) dX3_lodge_39 rfl rfl ?_
      refine rb_iload_n X (pc := 40) dX3_lodge_40 rfl rfl ?_
      refine rc_iast X (pc := 41) _ (rb_arT9 ht) rb_u_st rfl (by omega) dX3_lodge_41 ?_
      refine rb_vret (S := []) X (pc := 42) Y dX3_lodge_42 ?_
      exact ⟨rfl, by first | exact sp_lod1 hr hp | exact sp_lod2 hr hp1 hp | exact sp_lod3 hr hp hp21 | exact sp_lod4 hr hp1 hp hp21⟩
    · obtain ⟨p2, hp21, rfl⟩ := sp_pl_pos hto c22
      refine rb_aload_n X (pc := 25) dX3_lodge_25 rfl rfl ?_
      refine rc_getR X (pc := 26) fX3_21 (rb_obT ht) rfl dX3_lodge_26 ?_
      refine rb_iload_n X (pc := 29) dX3_lodge_29 rfl rfl ?_
      refine rb_dup2 X (pc := 30) dX3_lodge_30 rfl rfl ?_
      refine rc_iald X (pc := 31) p2 (rb_arT3 ht) (congrFun (rb_st_at _ _ _) 3) rfl hp21 dX3_lodge_31 ?_
      refine rb_iconst (v := 1) X (pc := 32) dX3_lodge_32 (by decide) ?_
      refine rb_iadd X (pc := 33) dX3_lodge_33 ?_
      refine rc_iast X (pc := 34) p2 (rb_arT3 ht) rb_u_st rfl hp21 dX3_lodge_34 ?_
      refine rb_aload_n X (pc := 35) dX3_lodge_35 rfl rfl ?_
      refine rc_getR X (pc := 36) fX3_40 (rb_obT ht) rfl dX3_lodge_36 ?_
      refine rb_iload_n X (pc := 39) dX3_lodge_39 rfl rfl ?_
      refine rb_iload_n X (pc := 40) dX3_lodge_40 rfl rfl ?_
      refine rc_iast X (pc := 41) _ (rb_arT9 ht) rb_u_st rfl (by omega) dX3_lodge_41 ?_
      refine rb_vret (S := []) X (pc := 42) Y dX3_lodge_42 ?_
      exact ⟨rfl, by first | exact sp_lod1 hr hp | exact sp_lod2 hr hp1 hp | exact sp_lod3 hr hp hp21 | exact sp_lod4 hr hp1 hp hp21⟩
set_option maxRecDepth 100000 in
set_option maxHeartbeats 1000000 in
theorem qX3_feedOne {G : rb_G} {h : rb_H} {t : Nat} {T : rb_T} (ht : t < 3) {r p : Nat} (hr : r < sp_n T) (hn10 : sp_n T ≤ 10) (hp1 : p < 8) (hp : T 9 r = nI p) : rb_M G 3 yX3_feedOne cX3_feedOne 4 none [.ref (rb_ad G t 0), .int (nI r)] (tw h t T) (rb_F none (tw h t (sp_feed T r))) := by
  refine rb_meth (L := [.ref (rb_ad G t 0), .int (nI r), .null, .null]) (by decide) (Nat.le_of_ble_eq_true rfl) rfl (fun Z X Y => ?_)
  have X : rb_CX Z G cX3_feedOne 4 RX3 3 := X
  refine rb_aload_n X (pc := 0) dX3_feedOne_0 rfl rfl ?_
  refine rc_getR X (pc := 1) fX3_40 (rb_obT ht) rfl dX3_feedOne_1 ?_
  refine rb_iload_n X (pc := 4) dX3_feedOne_4 rfl rfl ?_
  refine rc_iald X (pc := 5) _ (rb_arT9 ht) rb_tj9 rfl (by omega) dX3_feedOne_5 ?_
  refine rb_istore_n X (pc := 6) dX3_feedOne_6 rfl (by decide) rfl rfl ?_
  refine rb_aload_n X (pc := 7) dX3_feedOne_7 rfl rfl ?_
  refine rb_iload_n X (pc := 8) dX3_feedOne_8 rfl rfl ?_
  refine rc_callVi X (pc := 9) cvX3_eatsOf mX3_109 (rb_obT ht) (qX3_eatsOf ht (by omega)) (by decide) rfl rfl (Nat.le_of_ble_eq_true rfl) dX3_feedOne_9 ?_
  refine rb_istore_n X (pc := 12) dX3_feedOne_12 rfl (by decide) rfl rfl ?_
  refine rb_aload_n X (pc := 13) dX3_feedOne_13 rfl rfl ?_
  refine rc_getR X (pc := 14) fX3_15 (rb_obT ht) rfl dX3_feedOne_14 ?_
  refine rb_iload_n X (pc := 17) dX3_feedOne_17 rfl rfl ?_
  refine rc_iald X (pc := 18) p (rb_arT1 ht) rb_tj1 hp hp1 dX3_feedOne_18 ?_
  refine rb_iload_n X (pc := 19) dX3_feedOne_19 rfl rfl ?_
  refine rb_icmp_ge X (pc := 20) (tgt := 37) dX3_feedOne_20 (by decide) (fun c20 => ?_) (fun c20 => ?_)
  · refine rb_aload_n X (pc := 37) dX3_feedOne_37 rfl rfl ?_
    refine rc_getR X (pc := 38) fX3_15 (rb_obT ht) rfl dX3_feedOne_38 ?_
    refine rb_iload_n X (pc := 41) dX3_feedOne_41 rfl rfl ?_
    refine rb_dup2 X (pc := 42) dX3_feedOne_42 rfl rfl ?_
    refine rc_iald X (pc := 43) p (rb_arT1 ht) rb_tj1 hp hp1 dX3_feedOne_43 ?_
    refine rb_iload_n X (pc := 44) dX3_feedOne_44 rfl rfl ?_
    refine rb_isub X (pc := 45) dX3_feedOne_45 ?_
    refine rc_iast X (pc := 46) p (rb_arT1 ht) (tw_u (by decide) (by decide) (by decide)) hp hp1 dX3_feedOne_46 ?_
    refine rb_aload_n X (pc := 47) dX3_feedOne_47 rfl rfl ?_
    refine rc_getR X (pc := 48) fX3_34 (rb_obT ht) rfl dX3_feedOne_48 ?_
    refine rb_iload_n X (pc := 51) dX3_feedOne_51 rfl rfl ?_
    refine rb_bipush (v := 99) X (pc := 52) dX3_feedOne_52 (by decide) ?_
    refine rb_aload_n X (pc := 54) dX3_feedOne_54 rfl rfl ?_
    refine rc_getR X (pc := 55) fX3_34 (rb_obT ht) rfl dX3_feedOne_55 ?_
    refine rb_iload_n X (pc := 58) dX3_feedOne_58 rfl rfl ?_
    refine rc_iald X (pc := 59) _ (rb_arT7 ht) rb_tj7 rfl (by omega) dX3_feedOne_59 ?_
    refine rb_aload_n X (pc := 60) dX3_feedOne_60 rfl rfl ?_
    refine rb_iload_n X (pc := 61) dX3_feedOne_61 rfl rfl ?_
    refine rc_callVi X (pc := 62) cvX3_growsOf mX3_112 (rb_obT ht) (qX3_growsOf ht (by omega)) (by decide) rfl rfl (Nat.le_of_ble_eq_true rfl) dX3_feedOne_62 ?_
    refine rb_iadd X (pc := 65) dX3_feedOne_65 ?_
    refine rc_mmin X (pc := 66) mX3_87 (by decide) (Nat.le_of_ble_eq_true rfl) dX3_feedOne_66 ?_
    refine rc_iast X (pc := 69) _ (rb_arT7 ht) (tw_u (by decide) (by decide) (by decide)) rfl (by omega) dX3_feedOne_69 ?_
    refine rb_vret (S := []) X (pc := 70) Y dX3_feedOne_70 ?_
    exact ⟨rfl, by unfold sp_feed; rw [hp, nI_clamp (by omega), if_neg (Int32.not_lt.mpr c20)]; rfl⟩
  · refine rb_aload_n X (pc := 23) dX3_feedOne_23 rfl rfl ?_
    refine rc_getR X (pc := 24) fX3_15 (rb_obT ht) rfl dX3_feedOne_24 ?_
    refine rb_iload_n X (pc := 27) dX3_feedOne_27 rfl rfl ?_
    refine rb_iconst (v := 0) X (pc := 28) dX3_feedOne_28 (by decide) ?_
    refine rc_iast X (pc := 29) p (rb_arT1 ht) (tw_u (by decide) (by decide) (by decide)) hp hp1 dX3_feedOne_29 ?_
    refine rb_aload_n X (pc := 30) dX3_feedOne_30 rfl rfl ?_
    refine rb_iload_n X (pc := 31) dX3_feedOne_31 rfl rfl ?_
    refine rb_iconst (v := (-1)) X (pc := 32) dX3_feedOne_32 (by decide) ?_
    refine rc_callVv X (pc := 33) cvX3_lodge mX3_92 (rb_obT ht) (qX3_lodge ht (T := u2 T 1 p 0) hr hn10 (Or.inr ⟨p, hp1, hp⟩) (Or.inl rfl)) (by decide) rfl rfl (Nat.le_of_ble_eq_true rfl) dX3_feedOne_33 ?_
    refine rb_vret (S := []) X (pc := 36) Y dX3_feedOne_36 ?_
    exact ⟨rfl, by unfold sp_feed; rw [hp, nI_clamp (by omega), if_pos (Int32.not_le.mp c20)]⟩
theorem sp_add_n {T : rb_T} {k e b : Int32} (hn : T 4 0 = nI (sp_n T)) (hn10 : sp_n T < 10) : sp_n (sp_add T k e b) = sp_n T + 1 := by
  show ((T 4 0 + 1 : Int32)).toNatClampNeg = _
  rw [hn, nI_1, nI_clamp (by omega)]
theorem sp_add_9 {T : rb_T} {k e b : Int32} {r : Nat} : sp_add T k e b 9 r = if r = sp_n T then -1 else T 9 r := rfl
theorem sp_add_cn {T : rb_T} {k e b : Int32} (hn : T 4 0 = nI (sp_n T)) (hn10 : sp_n T < 10) : sp_cn (sp_add T k e b) = sp_cn T := by
  funext q
  unfold sp_cn
  by_cases hq : q < 8
  · simp only [hq, if_true]
    congr 1
    unfold sp_cnt
    rw [sp_add_n hn hn10, fb_ct_succ]
    have e1 : ¬ sp_add T k e b 9 (sp_n T) = nI q := by rw [sp_add_9, if_pos rfl]; exact sp_m1 (by omega)
    simp only [e1, decide_false, Bool.false_eq_true, if_false, Nat.add_zero]
    apply fb_ct_cong
    intro i hi
    rw [sp_add_9, if_neg (by omega)]
  · simp [hq]
theorem sp_add_wl {T : rb_T} {k e b : Int32} (hn : T 4 0 = nI (sp_n T)) (hn10 : sp_n T < 10) : u2 (u2 (u2 (u2 (u2 (u2 (wl T) 5 (sp_n T) k) 6 (sp_n T) e) 7 (sp_n T) b) 8 (sp_n T) 0) 9 (sp_n T) (-1)) 4 0 (T 4 0 + 1) = wl (sp_add T k e b) := by
  unfold wl
  rw [sp_add_cn hn hn10]
  funext a c
  simp only [u2, sp_add, va_up]
  by_cases h3 : a = 3
  · subst h3; simp
  · simp [h3]
set_option maxRecDepth 100000 in
set_option maxHeartbeats 1000000 in
theorem qX3_addOne {G : rb_G} {h : rb_H} {t : Nat} {T : rb_T} (ht : t < 3) (hn : T 4 0 = nI (sp_n T)) (hn10 : sp_n T ≤ 10) (kd e b : Int32) (hq10 : sp_n T < 10) : rb_M G 1 yX3_addOne cX3_addOne 5 (some .int) [.ref (rb_ad G t 0), .int kd, .int e, .int b] (tw h t T) (rb_F (some (.int (nI (sp_n T)))) (tw h t (sp_add T kd e b))) := by
  refine rb_meth (L := [.ref (rb_ad G t 0), .int kd, .int e, .int b, .null]) (by decide) (Nat.le_of_ble_eq_true rfl) rfl (fun Z X Y => ?_)
  have X : rb_CX Z G cX3_addOne 5 RX3 1 := X
  refine rb_aload_n X (pc := 0) dX3_addOne_0 rfl rfl ?_
  refine rc_callVi X (pc := 1) cvX3_isFull mX3_55 (rb_obT ht) (qX3_isFull ht) (by decide) rfl rfl (Nat.le_of_ble_eq_true rfl) dX3_addOne_1 ?_
  refine rb_if_eq X (pc := 4) (tgt := 9) dX3_addOne_4 (by decide) (fun c4 => ?_) (fun c4 => absurd (by rw [if_neg (sp_nfull hn hq10)]) c4)
  (try simp only [sp_b0, Classical.not_not] at c4)
  refine rb_aload_n X (pc := 9) dX3_addOne_9 rfl rfl ?_
  refine rc_getI X (pc := 10) fX3_24 (rb_obT ht) rfl rb_tf4 dX3_addOne_10 ?_
  refine rb_istore X (pc := 13) dX3_addOne_13 (by decide) rfl rfl ?_
  refine rb_aload_n X (pc := 15) dX3_addOne_15 rfl rfl ?_
  refine rc_getR X (pc := 16) fX3_28 (rb_obT ht) rfl dX3_addOne_16 ?_
  refine rb_iload X (pc := 19) dX3_addOne_19 rfl ?_
  refine rb_iload_n X (pc := 21) dX3_addOne_21 rfl rfl ?_
  refine rc_iast X (pc := 22) (sp_n T) (rb_arT5 ht) rb_u_st hn hq10 dX3_addOne_22 ?_
  refine rb_aload_n X (pc := 23) dX3_addOne_23 rfl rfl ?_
  refine rc_getR X (pc := 24) fX3_31 (rb_obT ht) rfl dX3_addOne_24 ?_
  refine rb_iload X (pc := 27) dX3_addOne_27 rfl ?_
  refine rb_iload_n X (pc := 29) dX3_addOne_29 rfl rfl ?_
  refine rc_iast X (pc := 30) (sp_n T) (rb_arT6 ht) rb_u_st hn hq10 dX3_addOne_30 ?_
  refine rb_aload_n X (pc := 31) dX3_addOne_31 rfl rfl ?_
  refine rc_getR X (pc := 32) fX3_34 (rb_obT ht) rfl dX3_addOne_32 ?_
  refine rb_iload X (pc := 35) dX3_addOne_35 rfl ?_
  refine rb_iload_n X (pc := 37) dX3_addOne_37 rfl rfl ?_
  refine rc_iast X (pc := 38) (sp_n T) (rb_arT7 ht) rb_u_st hn hq10 dX3_addOne_38 ?_
  refine rb_aload_n X (pc := 39) dX3_addOne_39 rfl rfl ?_
  refine rc_getR X (pc := 40) fX3_37 (rb_obT ht) rfl dX3_addOne_40 ?_
  refine rb_iload X (pc := 43) dX3_addOne_43 rfl ?_
  refine rb_iconst (v := 0) X (pc := 45) dX3_addOne_45 (by decide) ?_
  refine rc_iast X (pc := 46) (sp_n T) (rb_arT8 ht) rb_u_st hn hq10 dX3_addOne_46 ?_
  refine rb_aload_n X (pc := 47) dX3_addOne_47 rfl rfl ?_
  refine rc_getR X (pc := 48) fX3_40 (rb_obT ht) rfl dX3_addOne_48 ?_
  refine rb_iload X (pc := 51) dX3_addOne_51 rfl ?_
  refine rb_iconst (v := (-1)) X (pc := 53) dX3_addOne_53 (by decide) ?_
  refine rc_iast X (pc := 54) (sp_n T) (rb_arT9 ht) rb_u_st hn hq10 dX3_addOne_54 ?_
  refine rb_aload_n X (pc := 55) dX3_addOne_55 rfl rfl ?_
  refine rb_dup X (pc := 56) dX3_addOne_56 rfl ?_
  refine rc_getI X (pc := 57) fX3_24 (rb_obT ht) rfl (congrFun (congrFun (rb_st_at _ _ _) 4) 0) dX3_addOne_57 ?_
  refine rb_iconst (v := 1) X (pc := 60) dX3_addOne_60 (by decide) ?_
  refine rb_iadd X (pc := 61) dX3_addOne_61 ?_
  refine rc_put X (pc := 62) fX3_24 gX3_4 (rb_obT ht) rfl rfl rfl rb_u_st dX3_addOne_62 ?_
  refine rb_iload X (pc := 65) dX3_addOne_65 rfl ?_
  refine rb_iret (S := []) X (pc := 67) Y dX3_addOne_67 ?_
  exact ⟨by rw [← hn], congrArg (rb_st h t) (sp_add_wl hn hq10)⟩
