/-! every call leaves a state that may be -/
theorem ok_wT {σ : Sg} {T : rb_T} (h : okS σ) (hT : sp_ok T) : okS (wT σ T) := ⟨hT, h.2⟩
theorem ok_wS {σ : Sg} {b : Nat → Int32} {z : Nat → Nat} {u : Nat → Nat → Int64} (h : okS σ) (hz : ∀ s, s < 4 → z s ≤ 40) : okS (wS σ b z u) := ⟨h.1, h.2.1, h.2.2.1, h.2.2.2.1, hz⟩
theorem ok_wB {σ : Sg} {f : Nat → Int32} {n : Nat} (h : okS σ) (hn : n ≤ 120) : okS (wB σ f n) := ⟨h.1, h.2.1, h.2.2.1, hn, h.2.2.2.2⟩
theorem ok_ff {σ : Sg} {i : Nat} (h : okS σ) : okS (ff σ i).2 := h
theorem ok_house {σ : Sg} (h : okS σ) (a w v : Int32) : okS (r_house σ a w v).2 := by
  unfold r_house
  split
  · rename_i c
    obtain ⟨c1, c2⟩ := Bool.and_eq_true_iff.mp c
    simp only [Bool.or_eq_true, Bool.and_eq_true, decide_eq_true_eq] at c2
    rcases c2 with (⟨rfl, d⟩ | ⟨rfl, d⟩) | ⟨rfl, d⟩
    · exact ok_wT h (ok_u0 h.1 (iN_of (n := 3) (by decide) d))
    · exact ok_wT h (ok_u1 h.1 (iN_of (n := 999) (by decide) d))
    · exact ok_wT h (ok_u2r h.1 (iN_of (n := 9) (by decide) d))
  · exact h
theorem ok_houseOf {σ : Sg} (h : okS σ) (a w : Int32) : okS (r_houseOf σ a w).2 := by
  unfold r_houseOf
  repeat' split
  all_goals exact h
theorem nf_of {T : rb_T} (hok : sp_ok T) (c : ¬ (10 : Int32) ≤ T 4 0) : sp_n T < 10 := by
  have h10 := hok.2.1
  rcases Nat.lt_or_ge (sp_n T) 10 with z | z
  · exact z
  · exact absurd (by rw [hok.1]; exact (nI_leI (a := 10) (by omega) (by omega)).mpr z) c
theorem ok_rumour {σ : Sg} (h : okS σ) (k e : Int32) : okS (r_rumour σ k e).2 := by
  unfold r_rumour
  split
  · rename_i c
    obtain ⟨c1, c2⟩ := Bool.and_eq_true_iff.mp c
    split
    · exact h
    · rename_i c3; exact ok_wT h (sp_add_ok h.1 (nf_of h.1 c3) (iK_of c1) (iE_of c2) ⟨10, by omega, rfl⟩)
  · exact h
theorem ok_of {σ : Sg} (h : okS σ) (r w : Int32) : okS (r_of σ r w).2 := by
  unfold r_of
  repeat' split
  all_goals exact h
theorem ok_set {σ : Sg} (h : okS σ) (r w v : Int32) : okS (r_set σ r w v).2 := by
  unfold r_set
  split
  · rename_i c
    obtain ⟨c1, c2⟩ := Bool.and_eq_true_iff.mp c
    simp only [Bool.or_eq_true, Bool.and_eq_true, decide_eq_true_eq] at c2
    rcases c2 with (⟨rfl, d⟩ | ⟨rfl, d⟩) | ⟨rfl, d⟩
    · obtain ⟨q, h1, h2⟩ := iN_of (n := 15) (by decide) d
      exact ok_wT h (ok_u6 h.1 ⟨q, by omega, h2⟩)
    · exact ok_wT h (ok_u7 h.1 (iN_of (n := 99) (by decide) d))
    · exact ok_wT h (ok_u8 h.1 (iN_of (n := 999) (by decide) d))
  · exact h
theorem ok_turn {σ : Sg} (h : okS σ) (r k : Int32) : okS (r_turn σ r k).2 := by
  unfold r_turn
  split
  · rename_i c; exact ok_wT h (ok_u5 h.1 (iK_of (Bool.and_eq_true_iff.mp c).2))
  · exact h
theorem ok_as {σ : Sg} (h : okS σ) (r k : Int32) : okS (r_as σ r k).2 := by
  unfold r_as
  repeat' split
  all_goals exact h
theorem ok_takes {σ : Sg} (h : okS σ) (a r : Int32) : okS (r_takes σ a r).2 := by
  unfold r_takes
  split
  · exact h
  · exact h
theorem ok_comeIn {σ : Sg} (h : okS σ) (r : Int32) : okS (r_comeIn σ r).2 := by
  unfold r_comeIn
  split
  · split
    · exact h
    · exact ok_wT h (ok_u9 h.1 (sp_host_ok _ _))
  · exact h
theorem ok_improve {σ : Sg} (h : okS σ) (r v : Int32) : okS (r_improve σ r v).2 := by
  unfold r_improve
  split
  · rename_i c
    obtain ⟨c1, c2⟩ := Bool.and_eq_true_iff.mp c
    obtain ⟨q, h1, rfl⟩ := iR_of h.1 c1
    obtain ⟨m, h2, h3, rfl⟩ := iV_of (n := 20) (by decide) c2
    have h10 := h.1.2.1
    rw [show ix (nI q) = q from nI_clamp (by omega)]
    split
    · exact h
    · exact ok_wT h (sp_imp_ok h.1 (by omega) h3)
  · exact h
theorem ok_comesTrue {σ : Sg} (h : okS σ) (e : Int32) : okS (r_comesTrue σ e).2 := by
  unfold r_comesTrue
  split
  · exact ok_wT h (sp_bt_ok h.1)
  · exact h
theorem ok_forget {σ : Sg} (h : okS σ) (e : Int32) : okS (r_forget σ e).2 := by
  unfold r_forget
  split
  · exact ok_wT h (ok_uX h.1 (by decide))
  · exact h
theorem ok_days {σ : Sg} (h : okS σ) (n : Int32) : okS (r_days σ n).2 := by
  unfold r_days
  split
  · split
    · exact h
    · exact ok_wT h (sp_days_ok h.1 _)
  · exact h
theorem ok_now {σ : Sg} (h : okS σ) (w : Int32) : okS (r_now σ w).2 := by
  unfold r_now
  repeat' split
  all_goals exact h
theorem ok_on {σ : Sg} (h : okS σ) (r n w : Int32) : okS (r_on σ r n w).2 := by
  unfold r_on
  split
  · exact h
  · exact h
theorem ok_larder {σ : Sg} (h : okS σ) (a n : Int32) : okS (r_larder σ a n).2 := by
  unfold r_larder
  split
  · exact h
  · exact h
theorem ok_empty {σ : Sg} (h : okS σ) (a : Int32) : okS (r_empty σ a).2 := by
  unfold r_empty
  split
  · split
    · exact h
    · exact h
  · exact h
theorem ok_many {σ : Sg} (h : okS σ) (n : Int32) : okS (r_many σ n).2 := by
  unfold r_many
  split
  · exact h
  · exact h
theorem ok_out {σ : Sg} (h : okS σ) (a : Int32) : okS (r_out σ a).2 := by
  unfold r_out
  split
  · split
    · exact h
    · exact h
  · exact h
theorem ok_fewest {σ : Sg} (h : okS σ) (r a : Int32) : okS (r_fewest σ r a).2 := by
  unfold r_fewest
  split
  · split
    · exact h
    · split
      · exact h
      · exact h
  · exact h
theorem ok_least {σ : Sg} (h : okS σ) (r : Int32) : okS (r_least σ r).2 := by
  unfold r_least
  split
  · split
    · exact h
    · split
      · exact h
      · exact h
  · exact h
theorem ok_best {σ : Sg} (h : okS σ) (n : Int32) : okS (r_best σ n).2 := by
  unfold r_best
  split
  · exact h
  · exact h
theorem ok_lean {σ : Sg} (h : okS σ) (a r : Int32) : okS (r_lean σ a r).2 := by
  unfold r_lean
  split
  · split
    · exact h
    · exact h
  · exact h
theorem ok_leanFor {σ : Sg} (h : okS σ) (a n : Int32) : okS (r_leanFor σ a n).2 := by
  unfold r_leanFor
  split
  · exact h
  · exact h
theorem ok_kind {σ : Sg} (h : okS σ) (r : Int32) : okS (r_kind σ r).2 := by
  unfold r_kind
  split
  · exact h
  · exact h
theorem ok_host {σ : Sg} (h : okS σ) (r : Int32) : okS (r_host σ r).2 := by
  unfold r_host
  split
  · split
    · exact h
    · exact h
  · exact h
theorem ok_beds {σ : Sg} (h : okS σ) (a n : Int32) : okS (r_beds σ a n).2 := by
  unfold r_beds
  split
  · split
    · exact h
    · exact h
  · exact h
theorem ok_feed {σ : Sg} (h : okS σ) (b n : Int32) : okS (r_feed σ b n).2 := by
  unfold r_feed
  split
  · split
    · exact h
    · exact ok_wB h (by omega)
  · exact h
theorem ok_wipe {σ : Sg} (h : okS σ) : okS (r_wipe σ).2 := ok_wB h (by omega)
theorem p_tell_ok {f : Nat → Int32} {n : Nat} : ∀ (m it a : Nat) (T : rb_T), sp_ok T → a ≤ n → sp_ok (p_tell f n m it a T).2
  | 0, _, _, _, h, _ => h
  | m + 1, it, a, T, h, ha => by
    obtain ⟨g1, g2⟩ := p_item_g (f := f) ha h
    rw [p_tell]
    split
    · split
      · exact g2
      · split
        · exact p_tell_ok m _ _ _ g2 (tN_le g1).2
        · exact g2
    · exact g2
theorem ok_town {σ : Sg} (h : okS σ) : okS (r_town σ).2 := by
  unfold r_town
  refine ok_wB ?_ (by omega)
  split
  · exact ok_wT h (p_tell_ok _ _ _ _ h.1 (skp_le (by omega)).2)
  · exact h
theorem ok_sheet {σ : Sg} (h : okS σ) (s b n : Int32) : okS (r_sheet σ s b n).2 := by
  unfold r_sheet
  split
  · split
    · exact h
    · split
      · exact h
      · rename_i c1 c2 c3
        refine ok_wS h (fun q hq => ?_)
        simp only [va_up]
        split
        · obtain ⟨m, hm, rfl⟩ := sp_rngL (n := 40) (by decide) (Int32.not_lt.mp c2) (Int32.not_lt.mp c3)
          split
          · decide
          · rw [show ix (nI m) = m from nI_clamp (by omega)]; exact hm
        · exact h.2.2.2.2 q hq
  · exact h
theorem ok_write {σ : Sg} (h : okS σ) (s i : Int32) (v : Int64) : okS (r_write σ s i v).2 := by
  unfold r_write
  split
  · split
    · exact h
    · split
      · exact ok_wS h h.2.2.2.2
      · exact h
  · exact h
theorem ok_copy {σ : Sg} (h : okS σ) (s f t o n : Int32) : okS (r_copy σ s f t o n).2 := by
  unfold r_copy
  split
  · split
    · exact h
    · split
      · exact h
      · split
        · exact ok_wS h h.2.2.2.2
        · exact h
  · exact h
theorem sp_lay_ok {u : Nat → Int64} {T : rb_T} (h : sp_ok T) : ∀ n, sp_ok (sp_lay u T n).1
  | 0 => by rw [sp_lay_0]; exact h
  | n + 1 => by
    have ih := sp_lay_ok (u := u) h n
    rw [sp_lay_s, sp_lay1]
    split
    · rename_i c
      refine ok_u2r ih ?_
      obtain ⟨k, hk, e⟩ := pk_lOf (x := u n) (Int64.not_lt.mpr c.1)
      rw [e] at c ⊢
      have := (pk_lLE (b := 9) hk (by omega)).mp c.2
      exact ⟨k, by omega, lN_i k⟩
    · exact ih
theorem ok_lays {σ : Sg} (h : okS σ) (s : Int32) : okS (r_lays σ s).2 := by
  unfold r_lays
  split
  · split
    · exact h
    · exact ok_wT h (sp_lay_ok h.1 _)
  · exact h
theorem ok_book {σ : Sg} (h : okS σ) (s a : Int32) : okS (r_book σ s a).2 := by
  unfold r_book
  split
  · exact ok_wS h h.2.2.2.2
  · exact h
theorem ok_read {σ : Sg} (h : okS σ) (s a : Int32) : okS (r_read σ s a).2 := by
  unfold r_read
  split
  · exact h
  · exact h
theorem ok_image {σ : Sg} (h : okS σ) : okS (r_image σ).2 := ⟨h.1, fun _ => h.1, Or.inr rfl, h.2.2.2.1, h.2.2.2.2⟩
theorem ok_undo {σ : Sg} (h : okS σ) : okS (r_undo σ).2 := by
  unfold r_undo
  split
  · exact h
  · rename_i c; exact ok_wT h (h.2.1 (h.2.2.1.resolve_left c))
theorem ok_tear {σ : Sg} (h : okS σ) : okS (r_tear σ).2 := ⟨h.1, fun z => absurd (show (0 : Int32) = 1 from z) (by decide), Or.inl rfl, h.2.2.2.1, h.2.2.2.2⟩
theorem ok_count {σ : Sg} (h : okS σ) (w : Int32) : okS (r_count σ w).2 := by
  unfold r_count
  repeat' split
  all_goals exact h
theorem ok_status {σ : Sg} (h : okS σ) (w : Int32) : okS (r_status σ w).2 := by
  unfold r_status
  repeat' split
  all_goals exact h
theorem CI_ot {σ : Sg} {h h' : rb_H} (hC : CI σ h) (z : rb_ot h h') : CI σ h' := by
  refine ⟨by rw [(z 0 (by decide)).1]; exact hC.1, by rw [(z 2 (by decide)).1]; exact hC.2.1, by rw [(z 8 (by decide)).1]; exact hC.2.2.1, by rw [(z 8 (by decide)).1]; exact hC.2.2.2.1, by rw [(z 3 (by decide)).1]; exact hC.2.2.2.2.1, by rw [(z 3 (by decide)).1]; exact hC.2.2.2.2.2.1, fun s hs => ?_⟩
  rw [(z (4 + s) (by omega)).1, (z (4 + s) (by omega)).2]
  exact hC.2.2.2.2.2.2 s hs
theorem MI_9 {σ : Sg} {h h' : rb_H} (hM : MI σ h) (e1 : h'.1 9 = h.1 9) (e2 : h'.2 9 = h.2 9) : MI σ h' := by
  unfold MI at *
  rw [e1, e2]
  exact hM
