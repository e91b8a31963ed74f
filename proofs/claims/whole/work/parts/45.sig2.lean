/-! the rest of the calls' answers -/
def r_image (σ : Sg) : Int32 × Sg := (1, wKQ σ (sT σ) 1)
def r_undo (σ : Sg) : Int32 × Sg := if sQ σ = 0 then ff σ 3 else (sK σ 4 0, wT σ (sK σ))
def r_tear (σ : Sg) : Int32 × Sg := (if sQ σ = 0 then 0 else 1, wKQ σ (sK σ) 0)
def r_count (σ : Sg) (w : Int32) : Int32 × Sg := if w = 0 then (sT σ 4 0, σ) else if w = 1 then (nI (sL σ), σ) else if w = 2 then (sp_sum (sp_cn (sT σ)) 8, σ) else if w = 3 then (sp_sum (sT σ 0) 8, σ) else ff σ 0
def r_status (σ : Sg) (w : Int32) : Int32 × Sg := if w = -1 then (sp_sum (sF σ) 7, σ) else if 0 ≤ w ∧ w < 7 then (sF σ (ix w), σ) else ff σ 0
def r_wipe (σ : Sg) : Int32 × Sg := (nI (sL σ), wB σ (sB σ) 0)
def fdb (b : Int32) (m : Nat) : Int32 := (b.toUInt32 >>> ((8 * nI m).toUInt32 &&& Int32.toUInt32 31)).toInt32 &&& 255
def fdS (b : Int32) : Nat → (Nat → Int32) → Nat → (Nat → Int32)
  | 0, f, _ => f
  | m + 1, f, L => fdS b m (va_up f L (fdb b m)) (L + 1)
def r_feed (σ : Sg) (b n : Int32) : Int32 × Sg := if iV n 4 then (if 120 < sL σ + ix n then ff σ 1 else (nI (sL σ + ix n), wB σ (fdS b (ix n) (sB σ) (sL σ)) (sL σ + ix n))) else ff σ 0
def r_sheet (σ : Sg) (s b n : Int32) : Int32 × Sg := if iS s && (decide (b = 0) || decide (b = 8) || decide (b = 16) || decide (b = 64)) then (if n < 0 then ff σ 6 else if (40 : Int32) < n then ff σ 0 else (if b = 0 then 0 else n, wS σ (va_up (sW σ) (ix s) b) (va_up (sZ σ) (ix s) (ix (if b = 0 then 0 else n))) (va_up (sU σ) (ix s) (fun _ => 0)))) else ff σ 0
def ffl (σ : Sg) (i : Nat) : Int64 × Sg := ((-1000000001 - nI i).toInt64, fnd σ i)
def r_write (σ : Sg) (s i : Int32) (v : Int64) : Int64 × Sg := if iS s then (if sW σ (ix s) = 0 then ffl σ 5 else if 0 ≤ i ∧ i < nI (sZ σ (ix s)) then (sU σ (ix s) (ix i), wS σ (sW σ) (sZ σ) (va_up (sU σ) (ix s) (va_up (sU σ (ix s)) (ix i) (sp_nar (sW σ (ix s)) v)))) else ffl σ 0) else ffl σ 0
def r_copy (σ : Sg) (s f t o n : Int32) : Int32 × Sg := if iS s && iS t then (if sW σ (ix s) = 0 ∨ sW σ (ix t) = 0 then ff σ 5 else if ¬ sW σ (ix s) = sW σ (ix t) then ff σ 2 else if iG f n (nI (sZ σ (ix s))) && iG o n (nI (sZ σ (ix t))) then (n, wS σ (sW σ) (sZ σ) (va_up (sU σ) (ix t) (va_cpy (sU σ (ix s)) (sU σ (ix t)) (ix f) (ix o) (ix n)))) else ff σ 0) else ff σ 0
def sp_lay1 (u : Nat → Int64) (i : Nat) (a : rb_T × Nat) : rb_T × Nat := if 0 ≤ u i ∧ u i ≤ 9 then (u2 a.1 2 i (u i).toInt32, a.2 + 1) else a
def sp_lay (u : Nat → Int64) (T : rb_T) : Nat → rb_T × Nat := sp_fold (sp_lay1 u) (T, 0)
def r_lays (σ : Sg) (s : Int32) : Int32 × Sg := if iS s then (if sW σ (ix s) = 0 then ff σ 5 else (nI (sp_lay (sU σ (ix s)) (sT σ) (min (sZ σ (ix s)) 8)).2, wT σ (sp_lay (sU σ (ix s)) (sT σ) (min (sZ σ (ix s)) 8)).1)) else ff σ 0
/-- which finding a book meets; 7: none -/
def w_book (σ : Sg) (s a : Int32) : Nat := if iS s then (if sW σ (ix s) = 0 then 5 else if iH a then 7 else 0) else 0
def sp_bk (b : Int32) (T : rb_T) (q : Nat) : Nat → (Nat → Int64) → (Nat → Int64)
  | 0, f => f
  | n + 1, f => va_up (sp_bk b T q n f) n (sp_nar b (sp_days T n 1 q).toInt64)
def r_book (σ : Sg) (s a : Int32) : Int32 × Sg := if w_book σ s a = 7 then (nI (sZ σ (ix s)), wS σ (sW σ) (sZ σ) (va_up (sU σ) (ix s) (sp_bk (sW σ (ix s)) (sT σ) (ix a) (sZ σ (ix s)) (sU σ (ix s))))) else ff σ (w_book σ s a)
def sp_ib (u : Nat → Int64) (T : rb_T) (q : Nat) : Nat → Bool
  | 0 => true
  | n + 1 => sp_ib u T q n && decide (u n = (sp_days T n 1 q).toInt64)
def sp_rdk (u : Nat → Int64) (T : rb_T) (q z r : Nat) : Nat → Nat := fb_ct (fun k => sp_ib u (u2 T 5 r (nI k)) q z)
def sp_rd (u : Nat → Int64) (T : rb_T) (q z : Nat) : Nat → Nat := fb_sm (fun r => if T 9 r = nI q then sp_rdk u T q z r 6 else 0)
def r_read (σ : Sg) (s a : Int32) : Int32 × Sg := if w_book σ s a = 7 then (nI (sp_rd (sU σ (ix s)) (sT σ) (ix a) (sZ σ (ix s)) (sp_n (sT σ))), σ) else ff σ (w_book σ s a)
/-! the heap under these -/
theorem CI_KQ {σ : Sg} {h : rb_H} {q : Int32} (hC : CI σ h) (K : rb_T) (hK : q = 1 → h.1 2 = wl K) : CI (wKQ σ K q) (rb_u h 8 3 0 q) := by
  refine ⟨hC.1, hK, ?_, ?_, hC.2.2.2.2.1, hC.2.2.2.2.2.1, fun s hs => ?_⟩
  · rw [rb_u_row, rb_row_same]; simp [va_up]; rfl
  · rw [rb_u_row, rb_row_ne (by decide)]; exact hC.2.2.2.1
  · obtain ⟨a, b, c⟩ := hC.2.2.2.2.2.2 s hs
    rw [rb_u_row]
    exact ⟨by rw [rb_row_o (by omega)]; exact a, by rw [rb_row_o (by omega)]; exact b, c⟩
theorem CI_2 {σ : Sg} {h : rb_H} (hC : CI σ h) (M : rb_T) (hM : sQ σ = 1 → M = wl (sK σ)) : CI σ (rb_st h 2 M) := ⟨hC.1, hM, hC.2.2.1, hC.2.2.2.1, hC.2.2.2.2.1, hC.2.2.2.2.2.1, fun s hs => by
  obtain ⟨a, b, c⟩ := hC.2.2.2.2.2.2 s hs
  exact ⟨by rw [rb_st_ne (by omega)]; exact a, by rw [rb_st_ne (by omega)]; exact b, c⟩⟩
theorem CI_img {σ : Sg} {h : rb_H} (hC : CI σ h) : CI (wKQ σ (sT σ) 1) (rb_u (rb_st h 2 (wl (sT σ))) 8 3 0 1) := by
  have h1 : CI (wKQ σ (sT σ) 0) (rb_u h 8 3 0 0) := CI_KQ hC _ (fun z => absurd z (by decide))
  refine ⟨hC.1, fun _ => rfl, ?_, hC.2.2.2.1, hC.2.2.2.2.1, hC.2.2.2.2.2.1, fun s hs => ?_⟩
  · rw [rb_u_row, rb_row_same]; simp [va_up]; rfl
  · obtain ⟨a, b, c⟩ := hC.2.2.2.2.2.2 s hs
    rw [rb_u_row]
    exact ⟨by rw [rb_row_o (by omega), rb_st_ne (by omega)]; exact a, by rw [rb_row_o (by omega), rb_st_ne (by omega)]; exact b, c⟩
theorem CI_L {σ : Sg} {h : rb_H} (hC : CI σ h) (n : Nat) : CI (wB σ (sB σ) n) (rb_u h 3 1 0 (nI n)) := by
  refine ⟨hC.1, hC.2.1, hC.2.2.1, hC.2.2.2.1, ?_, ?_, fun s hs => ?_⟩
  · rw [rb_u_row, rb_row_ne (by decide)]; exact hC.2.2.2.2.1
  · rw [rb_u_row, rb_row_same]; simp [va_up]; rfl
  · obtain ⟨a, b, c⟩ := hC.2.2.2.2.2.2 s hs
    rw [rb_u_row]
    exact ⟨by rw [rb_row_o (by omega)]; exact a, by rw [rb_row_o (by omega)]; exact b, c⟩
theorem CI_B {σ : Sg} {h : rb_H} (hC : CI σ h) (i : Nat) (b : Int32) : CI (wB σ (va_up (sB σ) i b) (sL σ)) (rb_u h 3 0 i b) := by
  refine ⟨hC.1, hC.2.1, hC.2.2.1, hC.2.2.2.1, ?_, ?_, fun s hs => ?_⟩
  · rw [rb_u_row, rb_row_same, hC.2.2.2.2.1]; rfl
  · rw [rb_u_row, rb_row_ne (by decide)]; exact hC.2.2.2.2.2.1
  · obtain ⟨a, b, c⟩ := hC.2.2.2.2.2.2 s hs
    rw [rb_u_row]
    exact ⟨by rw [rb_row_o (by omega)]; exact a, by rw [rb_row_o (by omega)]; exact b, c⟩
theorem rb_rowl_o {h : rb_H} {o j o' : Nat} {f : Nat → Int64} (hn : o' ≠ o) : (rb_rowl h o j f).2 o' = h.2 o' := by simp [rb_rowl, va_up, hn]
theorem CI_U {σ : Sg} {h : rb_H} (hC : CI σ h) {q : Nat} (hq : q < 4) (f : Nat → Int64) : CI (wS σ (sW σ) (sZ σ) (va_up (sU σ) q f)) (rb_rowl h (4 + q) 2 f) := by
  refine ⟨hC.1, hC.2.1, hC.2.2.1, hC.2.2.2.1, hC.2.2.2.2.1, hC.2.2.2.2.2.1, fun s hs => ?_⟩
  obtain ⟨a, b, c⟩ := hC.2.2.2.2.2.2 s hs
  refine ⟨a, b, ?_⟩
  by_cases e : s = q
  · subst e
    rw [rb_rowl_same]
    simp [sU, wS, va_up]
  · rw [rb_rowl_o (by omega), c]
    simp [sU, wS, va_up, e]
theorem CI_Wb {σ : Sg} {h : rb_H} (hC : CI σ h) {q : Nat} (hq : q < 4) (b : Int32) : CI (wS σ (va_up (sW σ) q b) (sZ σ) (sU σ)) (rb_u h (4 + q) 0 0 b) := by
  have key : ∀ o, o < 4 ∨ 7 < o → (rb_u h (4 + q) 0 0 b).1 o = h.1 o := fun o ho => by rw [rb_u_row, rb_row_o (by omega)]
  refine ⟨by rw [key 0 (by omega)]; exact hC.1, by rw [key 2 (by omega)]; exact hC.2.1, by rw [key 8 (by omega)]; exact hC.2.2.1, by rw [key 8 (by omega)]; exact hC.2.2.2.1, by rw [key 3 (by omega)]; exact hC.2.2.2.2.1, by rw [key 3 (by omega)]; exact hC.2.2.2.2.2.1, fun s hs => ?_⟩
  obtain ⟨a, b2, c⟩ := hC.2.2.2.2.2.2 s hs
  by_cases e : s = q
  · subst e
    refine ⟨?_, ?_, c⟩
    · rw [rb_u_row, rb_row_same]; simp [sW, wS, va_up]
    · rw [rb_u_row, rb_row_ne (by omega)]; exact b2
  · refine ⟨?_, ?_, c⟩
    · rw [rb_u_row, rb_row_o (by omega), a]; simp [sW, wS, va_up, e]
    · rw [rb_u_row, rb_row_o (by omega)]; exact b2
theorem CI_Zn {σ : Sg} {h : rb_H} (hC : CI σ h) {q : Nat} (hq : q < 4) (n : Nat) : CI (wS σ (sW σ) (va_up (sZ σ) q n) (sU σ)) (rb_u h (4 + q) 1 0 (nI n)) := by
  have key : ∀ o, o < 4 ∨ 7 < o → (rb_u h (4 + q) 1 0 (nI n)).1 o = h.1 o := fun o ho => by rw [rb_u_row, rb_row_o (by omega)]
  refine ⟨by rw [key 0 (by omega)]; exact hC.1, by rw [key 2 (by omega)]; exact hC.2.1, by rw [key 8 (by omega)]; exact hC.2.2.1, by rw [key 8 (by omega)]; exact hC.2.2.2.1, by rw [key 3 (by omega)]; exact hC.2.2.2.2.1, by rw [key 3 (by omega)]; exact hC.2.2.2.2.2.1, fun s hs => ?_⟩
  obtain ⟨a, b2, c⟩ := hC.2.2.2.2.2.2 s hs
  by_cases e : s = q
  · subst e
    refine ⟨?_, ?_, c⟩
    · rw [rb_u_row, rb_row_ne (by omega)]; exact a
    · rw [rb_u_row, rb_row_same]; simp [sZ, wS, va_up]
  · refine ⟨?_, ?_, c⟩
    · rw [rb_u_row, rb_row_o (by omega)]; exact a
    · rw [rb_u_row, rb_row_o (by omega), b2]; simp [sZ, wS, va_up, e]
theorem lg_lt0 {x y : Int64} : lg_cmp x y < 0 ↔ x < y := by
  unfold lg_cmp
  by_cases h1 : y < x
  · simp [h1]; exact Int64.le_of_lt h1
  · by_cases h2 : x = y
    · subst h2; simp
    · simp [h1, h2]
      rcases Int64.lt_or_eq_of_le (Int64.not_lt.mp h1) with z | z
      · exact z
      · exact absurd z h2
theorem lg_gt0 {x y : Int64} : 0 < lg_cmp x y ↔ y < x := by
  unfold lg_cmp
  by_cases h1 : y < x
  · simp [h1]
  · by_cases h2 : x = y
    · subst h2; simp
    · simp [h1, h2]
theorem lg_eq0 {x y : Int64} : lg_cmp x y = 0 ↔ x = y := by
  unfold lg_cmp
  by_cases h1 : y < x
  · simp [h1]; rintro rfl; exact absurd h1 (Int64.lt_irrefl)
  · by_cases h2 : x = y
    · simp [h2]
    · simp [h1, h2]
