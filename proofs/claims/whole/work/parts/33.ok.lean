/-! a town stays a town -/
theorem ok_u {T : rb_T} (h : sp_ok T) {j i : Nat} {v : Int32} (h4 : j ≠ 4) (hR : ∀ r, r < 10 → sp_okR (u2 T j i v) r) (hH : ∀ q, q < 8 → sp_okH (u2 T j i v) q) : sp_ok (u2 T j i v) :=
  ⟨by rw [sp_n_u2 h4, u2_row (Ne.symm h4)]; exact h.1, by rw [sp_n_u2 h4]; exact h.2.1, hR, hH⟩
theorem okR_row {T : rb_T} {j i r : Nat} {v : Int32} (h : sp_okR T r) (hj : j < 5 ∨ 9 < j) : sp_okR (u2 T j i v) r := by
  unfold sp_okR at h ⊢
  rw [u2_row (by omega), u2_row (by omega), u2_row (by omega), u2_row (by omega), u2_row (by omega)]
  exact h
theorem okH_row {T : rb_T} {j i q : Nat} {v : Int32} (h : sp_okH T q) (hj : 2 < j) : sp_okH (u2 T j i v) q := by
  unfold sp_okH at h ⊢
  rw [u2_row (by omega), u2_row (by omega), u2_row (by omega)]
  exact h
theorem u2_if {T : rb_T} {j i r : Nat} {v : Int32} : u2 T j i v j r = if r = i then v else T j r := by simp [u2, va_up]
theorem ok_u5 {T : rb_T} (h : sp_ok T) {i : Nat} {v : Int32} (hv : ∃ k, k < 6 ∧ v = nI k) : sp_ok (u2 T 5 i v) := by
  refine ok_u h (by decide) (fun r hr => ?_) (fun q hq => okH_row (h.2.2.2 q hq) (by decide))
  obtain ⟨h5, h6, h7, h8, h9⟩ := h.2.2.1 r hr
  refine ⟨?_, h6, h7, h8, h9⟩
  rw [u2_if]; split
  · exact hv
  · exact h5
theorem ok_u6 {T : rb_T} (h : sp_ok T) {i : Nat} {v : Int32} (hv : ∃ k, k < 16 ∧ v = nI k) : sp_ok (u2 T 6 i v) := by
  refine ok_u h (by decide) (fun r hr => ?_) (fun q hq => okH_row (h.2.2.2 q hq) (by decide))
  obtain ⟨h5, h6, h7, h8, h9⟩ := h.2.2.1 r hr
  refine ⟨h5, ?_, h7, h8, h9⟩
  rw [u2_if]; split
  · exact hv
  · exact h6
theorem ok_u7 {T : rb_T} (h : sp_ok T) {i : Nat} {v : Int32} (hv : ∃ k, k ≤ 99 ∧ v = nI k) : sp_ok (u2 T 7 i v) := by
  refine ok_u h (by decide) (fun r hr => ?_) (fun q hq => okH_row (h.2.2.2 q hq) (by decide))
  obtain ⟨h5, h6, h7, h8, h9⟩ := h.2.2.1 r hr
  refine ⟨h5, h6, ?_, h8, h9⟩
  rw [u2_if]; split
  · exact hv
  · exact h7
theorem ok_u8 {T : rb_T} (h : sp_ok T) {i : Nat} {v : Int32} (hv : ∃ k, k ≤ 999 ∧ v = nI k) : sp_ok (u2 T 8 i v) := by
  refine ok_u h (by decide) (fun r hr => ?_) (fun q hq => okH_row (h.2.2.2 q hq) (by decide))
  obtain ⟨h5, h6, h7, h8, h9⟩ := h.2.2.1 r hr
  refine ⟨h5, h6, h7, ?_, h9⟩
  rw [u2_if]; split
  · exact hv
  · exact h8
theorem ok_u9 {T : rb_T} (h : sp_ok T) {i : Nat} {v : Int32} (hv : sp_pl v) : sp_ok (u2 T 9 i v) := by
  refine ok_u h (by decide) (fun r hr => ?_) (fun q hq => okH_row (h.2.2.2 q hq) (by decide))
  obtain ⟨h5, h6, h7, h8, h9⟩ := h.2.2.1 r hr
  refine ⟨h5, h6, h7, h8, ?_⟩
  rw [u2_if]; split
  · exact hv
  · exact h9
theorem ok_u0 {T : rb_T} (h : sp_ok T) {i : Nat} {v : Int32} (hv : ∃ k, k ≤ 3 ∧ v = nI k) : sp_ok (u2 T 0 i v) := by
  refine ok_u h (by decide) (fun r hr => okR_row (h.2.2.1 r hr) (by decide)) (fun q hq => ?_)
  obtain ⟨h0, h1, h2⟩ := h.2.2.2 q hq
  refine ⟨?_, h1, h2⟩
  rw [u2_if]; split
  · exact hv
  · exact h0
theorem ok_u1 {T : rb_T} (h : sp_ok T) {i : Nat} {v : Int32} (hv : ∃ k, k ≤ 999 ∧ v = nI k) : sp_ok (u2 T 1 i v) := by
  refine ok_u h (by decide) (fun r hr => okR_row (h.2.2.1 r hr) (by decide)) (fun q hq => ?_)
  obtain ⟨h0, h1, h2⟩ := h.2.2.2 q hq
  refine ⟨h0, ?_, h2⟩
  rw [u2_if]; split
  · exact hv
  · exact h1
theorem ok_u2r {T : rb_T} (h : sp_ok T) {i : Nat} {v : Int32} (hv : ∃ k, k ≤ 9 ∧ v = nI k) : sp_ok (u2 T 2 i v) := by
  refine ok_u h (by decide) (fun r hr => okR_row (h.2.2.1 r hr) (by decide)) (fun q hq => ?_)
  obtain ⟨h0, h1, h2⟩ := h.2.2.2 q hq
  refine ⟨h0, h1, ?_⟩
  rw [u2_if]; split
  · exact hv
  · exact h2
theorem ok_uX {T : rb_T} (h : sp_ok T) {j i : Nat} {v : Int32} (hj : 9 < j) : sp_ok (u2 T j i v) :=
  ok_u h (by omega) (fun r hr => okR_row (h.2.2.1 r hr) (Or.inr hj)) (fun q hq => okH_row (h.2.2.2 q hq) (by omega))
/-! numbers in range -/
theorem sp_10 {b : Nat} (hb : b < 2 ^ 31) : nI b / 10 = nI (b / 10) := pk_div (d := 10) hb (by omega) (by omega)
theorem sp_minN {x c : Nat} (hx : x < 2 ^ 31) (hc : c < 2 ^ 31) : sp_min (nI x) (nI c) = nI (if x < c then x else c) := by
  unfold sp_min
  by_cases h : x < c
  · rw [if_pos ((nI_ltI hx hc).mpr h), if_pos h]
  · rw [if_neg (fun z => h ((nI_ltI hx hc).mp z)), if_neg h]
def sp_eN (k b a : Nat) : Nat := if k = 1 then 2 * (b / 10 + 1) else if k = 2 then 1 else if k = 3 then b / 10 + 1 - a / 10 else if k = 4 then 2 * (b / 10 + 1) + 3 else if k = 5 then 0 else b / 10 + 1
theorem sp_kq {k m : Nat} (hk : k < 6) (hm : m < 6) : (nI k = nI m) ↔ k = m := nI_eq (by omega) (by omega)
theorem sp_eatsN {k b a : Nat} (hk : k < 6) (hb : b ≤ 99) (ha : a ≤ 999) : sp_eats (nI k) (nI b) (nI a) = nI (sp_eN k b a) := by
  have e1 : nI b / 10 + 1 = nI (b / 10 + 1) := by rw [sp_10 (by omega), nI_1]
  have e2 : nI a / 10 = nI (a / 10) := sp_10 (by omega)
  unfold sp_eats sp_eN
  rw [e1, e2]
  have q1 := sp_kq (m := 1) hk (by omega)
  have q2 := sp_kq (m := 2) hk (by omega)
  have q3 := sp_kq (m := 3) hk (by omega)
  have q4 := sp_kq (m := 4) hk (by omega)
  have q5 := sp_kq (m := 5) hk (by omega)
  have l1 : (1 : Int32) = nI 1 := rfl
  have l2 : (2 : Int32) = nI 2 := rfl
  have l3 : (3 : Int32) = nI 3 := rfl
  have l4 : (4 : Int32) = nI 4 := rfl
  have l5 : (5 : Int32) = nI 5 := rfl
  rw [l1, l2, l3, l4, l5]
  simp only [q1, q2, q3, q4, q5, pk_mul, nI_add]
  rcases (show k = 0 ∨ k = 1 ∨ k = 2 ∨ k = 3 ∨ k = 4 ∨ k = 5 by omega) with rfl | rfl | rfl | rfl | rfl | rfl <;> simp
  · by_cases h : a / 10 < b / 10 + 1
    · have hp : (0 : Int32) < nI (b / 10 + 1 - a / 10) := (nI_ltI (a := 0) (b := b / 10 + 1 - a / 10) (by omega) (by omega)).mpr (by omega)
      rw [pk_sub (by omega), if_pos hp]
    · have h0 : b / 10 + 1 - a / 10 = 0 := by omega
      by_cases h2 : a / 10 = b / 10 + 1
      · rw [h2, pk_sub (Nat.le_refl _)]; simp only [Nat.sub_self]; rfl
      · have := pk_sneg (a := b / 10 + 1) (b := a / 10) (by omega) (by omega)
        rw [if_neg (fun z => Int32.lt_irrefl (Int32.lt_trans z this)), h0]; rfl
  · rfl
theorem sp_eN_le {k b a : Nat} (hb : b ≤ 99) : sp_eN k b a ≤ 23 := by
  unfold sp_eN
  have : b / 10 ≤ 9 := by omega
  split
  · omega
  · split
    · omega
    · split
      · omega
      · split
        · omega
        · split <;> omega
theorem sp_growsN {k b a : Nat} (hk : k < 6) (hb : b ≤ 99) (ha : a ≤ 999) : ∃ m, m ≤ 10 ∧ sp_grows (nI k) (nI b) (nI a) = nI m := by
  have e1 : nI b / 10 + 1 = nI (b / 10 + 1) := by rw [sp_10 (by omega), nI_1]
  unfold sp_grows
  rw [e1]
  repeat' split
  · exact ⟨_, by omega, rfl⟩
  · exact ⟨0, by omega, rfl⟩
  · exact ⟨1, by omega, rfl⟩
  · exact ⟨0, by omega, rfl⟩
  · exact ⟨_, by omega, rfl⟩
  · exact ⟨0, by omega, rfl⟩
  · exact ⟨1, by omega, rfl⟩
theorem sp_feed_ok {T : rb_T} {r : Nat} (h : sp_ok T) (hr : r < 10) (hp : ¬ T 9 r = -1) : sp_ok (sp_feed T r) := by
  obtain ⟨⟨k, hk, ek⟩, ⟨e, he, ee⟩, ⟨b, hb, eb⟩, ⟨a, ha, ea⟩, hpl⟩ := h.2.2.1 r hr
  obtain ⟨p, hp1, hp2⟩ := sp_pl_ne hpl hp
  obtain ⟨-, ⟨l, hl, el⟩, -⟩ := h.2.2.2 p hp1
  unfold sp_feed
  rw [hp2, nI_clamp (by omega)]
  have hE : sp_eR T r = nI (sp_eN k b a) := by unfold sp_eR; rw [ek, eb, ea, sp_eatsN hk hb ha]
  have hEl := sp_eN_le (k := k) (a := a) hb
  split
  · exact ok_u9 (ok_u1 h ⟨0, by omega, rfl⟩) (Or.inl rfl)
  · rename_i hc
    rw [hE, el] at hc ⊢
    have : sp_eN k b a ≤ l := by
      rcases Nat.lt_or_ge l (sp_eN k b a) with z | z
      · exact absurd ((nI_ltI (by omega) (by omega)).mpr z) hc
      · exact z
    obtain ⟨m, hm, em⟩ := sp_growsN hk hb ha
    refine ok_u7 (ok_u1 h ⟨l - sp_eN k b a, by omega, pk_sub this⟩) ?_
    have e3 : T 7 r + sp_gR T r = nI (b + m) := by unfold sp_gR; rw [ek, eb, ea, em, nI_add]
    rw [e3, show (99 : Int32) = nI 99 from rfl, sp_minN (by omega) (by omega)]
    exact ⟨_, by split <;> omega, rfl⟩
theorem sp_age_ok {T : rb_T} {r : Nat} (h : sp_ok T) (hr : r < 10) : sp_ok (sp_age T r) := by
  obtain ⟨-, -, -, ⟨a, ha, ea⟩, -⟩ := h.2.2.1 r hr
  refine ok_u8 h ?_
  rw [ea, nI_1, show (999 : Int32) = nI 999 from rfl, sp_minN (by omega) (by omega)]
  exact ⟨_, by split <;> omega, rfl⟩
theorem sp_n_feed {T : rb_T} {r : Nat} : sp_n (sp_feed T r) = sp_n T := by unfold sp_feed; split <;> (rw [sp_n_u2 (by decide), sp_n_u2 (by decide)])
theorem sp_n_d1 {T : rb_T} {r : Nat} : sp_n (sp_d1 r T) = sp_n T := by
  unfold sp_d1 sp_age
  rw [sp_n_u2 (by decide)]
  split
  · rfl
  · exact sp_n_feed
theorem sp_d1_ok {T : rb_T} {r : Nat} (h : sp_ok T) (hr : r < 10) : sp_ok (sp_d1 r T) := by
  unfold sp_d1
  apply sp_age_ok _ hr
  split
  · exact h
  · rename_i hc; exact sp_feed_ok h hr hc
theorem sp_it_s {f : Nat → rb_T → rb_T} {T : rb_T} {n : Nat} : sp_it f T (n + 1) = f n (sp_it f T n) := rfl
theorem sp_it_n {f : Nat → rb_T → rb_T} (hf : ∀ r T, sp_n (f r T) = sp_n T) {T : rb_T} : ∀ n, sp_n (sp_it f T n) = sp_n T
  | 0 => rfl
  | n + 1 => by rw [sp_it_s, hf, sp_it_n hf n]
theorem sp_it_ok {f : Nat → rb_T → rb_T} {N : Nat} (hf : ∀ r T, r < N → sp_ok T → sp_ok (f r T)) {T : rb_T} (h : sp_ok T) : ∀ n, n ≤ N → sp_ok (sp_it f T n)
  | 0, _ => h
  | n + 1, hn => by rw [sp_it_s]; exact hf n _ (by omega) (sp_it_ok hf h n (by omega))
theorem sp_day1_ok {T : rb_T} (h : sp_ok T) {i : Nat} (hi : i ≤ sp_n T) : sp_ok (sp_it sp_d1 T i) ∧ sp_n (sp_it sp_d1 T i) = sp_n T :=
  ⟨sp_it_ok (N := 10) (fun r T hr h => sp_d1_ok h hr) h i (by have := h.2.1; omega), sp_it_n (fun r T => sp_n_d1) i⟩
theorem sp_add_ok {T : rb_T} {k e b : Int32} (h : sp_ok T) (hn : sp_n T < 10) (hk : ∃ q, q < 6 ∧ k = nI q) (he : ∃ q, q < 16 ∧ e = nI q) (hb : ∃ q, q ≤ 99 ∧ b = nI q) : sp_ok (sp_add T k e b) := by
  have h1 : sp_ok (u2 (u2 (u2 (u2 (u2 T 5 (sp_n T) k) 6 (sp_n T) e) 7 (sp_n T) b) 8 (sp_n T) 0) 9 (sp_n T) (-1)) := ok_u9 (ok_u8 (ok_u7 (ok_u6 (ok_u5 h hk) he) hb) ⟨0, by omega, rfl⟩) (Or.inl rfl)
  have hs := sp_add_n (k := k) (e := e) (b := b) h.1 hn
  refine ⟨?_, by omega, fun r hr => h1.2.2.1 r hr, fun q hq => h1.2.2.2 q hq⟩
  rw [hs]
  show T 4 0 + 1 = _
  rw [h.1, nI_1]
theorem sp_two_s {T : rb_T} {q : Nat} {e : Int32} {r : Nat} : sp_two T q e (r + 1) = if (sp_two T q e r).2 < 2 ∧ T 9 r = nI q ∧ T 6 r = e then ((sp_two T q e r).1 + T 7 r, (sp_two T q e r).2 + 1) else sp_two T q e r := rfl
theorem sp_two_ok {T : rb_T} (h : sp_ok T) {q : Nat} {e : Int32} : ∀ n, n ≤ 10 → (sp_two T q e n).2 ≤ 2 ∧ ∃ s, s ≤ 99 * (sp_two T q e n).2 ∧ (sp_two T q e n).1 = nI s
  | 0, _ => ⟨Nat.zero_le _, 0, Nat.zero_le _, rfl⟩
  | n + 1, hn => by
    obtain ⟨h1, s, h2, h3⟩ := sp_two_ok h (q := q) (e := e) n (by omega)
    obtain ⟨-, -, ⟨b, hb, eb⟩, -⟩ := h.2.2.1 n (by omega)
    rw [sp_two_s]
    split
    · rename_i hc
      refine ⟨by show _ + 1 ≤ 2; omega, s + b, by show _ ≤ 99 * (_ + 1); omega, ?_⟩
      show (sp_two T q e n).1 + T 7 n = _
      rw [h3, eb, nI_add]
    · exact ⟨h1, s, h2, h3⟩
theorem sp_two_stop {T : rb_T} {q : Nat} {e : Int32} {i : Nat} (h : (sp_two T q e i).2 = 2) : ∀ d, sp_two T q e (i + d) = sp_two T q e i
  | 0 => rfl
  | d + 1 => by
    have ih := sp_two_stop h d
    rw [show i + (d + 1) = (i + d) + 1 from rfl, sp_two_s, ih]
    rw [if_neg (by omega)]
theorem sp_pair_le {T : rb_T} {q : Nat} : sp_pair T q ≤ 16 := fa_first_le _ 16
theorem sp_thd_ok {T : rb_T} (h : sp_ok T) {q : Nat} : sp_ok (sp_thd T q) := by
  unfold sp_thd
  split
  · exact h
  · rename_i hc
    have hl := sp_pair_le (T := T) (q := q)
    have h1 : sp_pair T q ≠ 16 := fun z => hc (Or.inl z)
    have h2 : sp_n T ≠ 10 := fun z => hc (Or.inr (Or.inl z))
    have h3 := h.2.1
    obtain ⟨a1, s, a2, a3⟩ := sp_two_ok h (q := q) (e := nI (sp_pair T q)) (sp_n T) h3
    refine sp_add_ok h (by omega) ⟨0, by omega, rfl⟩ ⟨_, by omega, rfl⟩ ⟨s / 2, by omega, ?_⟩
    rw [a3]; exact pk_div (d := 2) (by omega) (by omega) (by omega)
theorem sp_day2_ok {T : rb_T} (h : sp_ok T) {i : Nat} (hi : i ≤ 8) : sp_ok (sp_it (fun q T => sp_thd T q) T i) := sp_it_ok (N := 8) (fun r T _ h => sp_thd_ok h) h i hi
theorem sp_d3_ok {T : rb_T} {r : Nat} (h : sp_ok T) : sp_ok (sp_d3 r T) := by
  unfold sp_d3
  split
  · exact ok_u9 h (sp_host_ok T r)
  · exact h
theorem sp_n_d3 {T : rb_T} {r : Nat} : sp_n (sp_d3 r T) = sp_n T := by
  unfold sp_d3
  split
  · exact sp_n_u2 (by decide)
  · rfl
theorem sp_day3_ok {T : rb_T} (h : sp_ok T) {i : Nat} (hi : i ≤ sp_n T) : sp_ok (sp_it sp_d3 T i) ∧ sp_n (sp_it sp_d3 T i) = sp_n T :=
  ⟨sp_it_ok (N := 10) (fun r T hr h => sp_d3_ok h) h i (by have := h.2.1; omega), sp_it_n (fun r T => sp_n_d3) i⟩
theorem sp_day_ok {T : rb_T} (h : sp_ok T) : sp_ok (sp_day T) := by
  unfold sp_day
  refine ok_uX ?_ (by decide)
  have h1 := (sp_day1_ok h (Nat.le_refl _)).1
  have h2 := sp_day2_ok (T := sp_day1 T) h1 (Nat.le_refl 8)
  exact (sp_day3_ok (T := sp_day2 (sp_day1 T)) h2 (Nat.le_refl _)).1
theorem sp_days_ok {T : rb_T} (h : sp_ok T) : ∀ n, sp_ok (sp_days T n)
  | 0 => h
  | n + 1 => sp_day_ok (sp_days_ok h n)
/-! an event comes true -/
theorem sp_ctF_s {T : rb_T} {e : Int32} {r : Nat} : sp_ctF T e (r + 1) = sp_ct1 r e (sp_ctF T e r) := rfl
theorem sp_ctF_row {T : rb_T} {e : Int32} {j : Nat} (hj : j ≠ 9) : ∀ n, (sp_ctF T e n).1 j = T j
  | 0 => rfl
  | n + 1 => by
    have ih := sp_ctF_row (T := T) (e := e) hj n
    rw [sp_ctF_s]
    unfold sp_ct1
    split
    · show u2 _ 9 n (-1) j = _
      rw [u2_row hj, ih]
    · exact ih
theorem sp_ctF_9 {T : rb_T} {e : Int32} : ∀ n r, (sp_ctF T e n).1 9 r = if r < n ∧ T 6 r = e then -1 else T 9 r
  | 0, r => by simp [sp_ctF, sp_fold]
  | n + 1, r => by
    have ih := sp_ctF_9 (T := T) (e := e) n
    rw [sp_ctF_s]
    unfold sp_ct1
    rw [sp_ctF_row (by decide)]
    split
    · rename_i hc
      show u2 _ 9 n (-1) 9 r = _
      rw [u2_if, ih]
      by_cases hr : r = n
      · subst hr; simp [hc.1]
      · have : (r < n + 1) ↔ r < n := by omega
        simp [hr, this]
    · rename_i hc
      rw [ih]
      by_cases hr : r = n
      · subst hr
        simp only [Nat.lt_irrefl, false_and, if_false, Nat.lt_succ_self, true_and]
        split
        · rename_i h6
          have h9 := ih r
          simp only [Nat.lt_irrefl, false_and, if_false] at h9
          rcases Classical.em (T 9 r = -1) with z | z
          · exact z
          · exact absurd ⟨h6, by rw [h9]; exact z⟩ hc
        · rfl
      · have : (r < n + 1) ↔ r < n := by omega
        simp [this]
theorem sp_ctF_n {T : rb_T} {e : Int32} {n : Nat} : sp_n (sp_ctF T e n).1 = sp_n T := by unfold sp_n; rw [sp_ctF_row (by decide)]
theorem sp_ctF_ok {T : rb_T} (h : sp_ok T) {e : Int32} : ∀ n, sp_ok (sp_ctF T e n).1
  | 0 => h
  | n + 1 => by
    have ih := sp_ctF_ok h (e := e) n
    rw [sp_ctF_s]
    unfold sp_ct1
    split
    · exact ok_u9 ih (Or.inl rfl)
    · exact ih
theorem sp_bt_ok {T : rb_T} (h : sp_ok T) {e : Int32} : sp_ok (sp_bt T e) := ok_uX (sp_ctF_ok h _) (by decide)
theorem sp_imp1_ok {T : rb_T} (h : sp_ok T) {r v : Nat} (hr : r < 10) (hv : v ≤ 20) : sp_ok (sp_imp1 T r (nI v)) := by
  obtain ⟨-, -, ⟨b, hb, eb⟩, -⟩ := h.2.2.1 r hr
  refine ok_u7 h ?_
  rw [eb, nI_add, show (99 : Int32) = nI 99 from rfl, sp_minN (by omega) (by omega)]
  exact ⟨_, by split <;> omega, rfl⟩
theorem sp_nx_lt {T : rb_T} {r b : Nat} : sp_nx T r b < 8 := Nat.mod_lt _ (by decide)
theorem sp_imp_ok {T : rb_T} (h : sp_ok T) {r v : Nat} (hr : r < 10) (hv : v ≤ 20) : sp_ok (sp_imp T r (nI v)) := by
  unfold sp_imp
  split
  · exact ok_u9 (sp_imp1_ok h hr hv) (Or.inr ⟨_, sp_nx_lt, rfl⟩)
  · exact sp_imp1_ok h hr hv
theorem fa_first_eq {p : Nat → Bool} {n k : Nat} (hk : k < n) (h1 : p k = true) (h2 : ∀ c, c < k → p c = false) : fa_first p n = k := by
  rcases Nat.lt_trichotomy (fa_first p n) k with z | z | z
  · have a := fa_first_yes p n (by omega)
    rw [h2 _ z] at a; cases a
  · exact z
  · have a := fa_first_no p n k z
    rw [h1] at a; cases a
theorem fa_first_none {p : Nat → Bool} {n : Nat} (h2 : ∀ c, c < n → p c = false) : fa_first p n = n := by
  have h := fa_first_le p n
  rcases Nat.lt_or_ge (fa_first p n) n with z | z
  · have a := fa_first_yes p n z
    rw [h2 _ z] at a; cases a
  · omega
