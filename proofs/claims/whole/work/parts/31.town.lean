/-! folds -/
def sp_fold {α : Type} (f : Nat → α → α) (a : α) : Nat → α
  | 0 => a
  | n + 1 => f n (sp_fold f a n)
theorem sp_fold_s {α : Type} {f : Nat → α → α} {a : α} {n : Nat} : sp_fold f a (n + 1) = f n (sp_fold f a n) := rfl
def sp_any (p : Nat → Bool) : Nat → Bool
  | 0 => false
  | n + 1 => sp_any p n || p n
theorem sp_any_iff (p : Nat → Bool) : ∀ n, sp_any p n = true ↔ ∃ r, r < n ∧ p r = true
  | 0 => by simp [sp_any]
  | n + 1 => by
    rw [sp_any, Bool.or_eq_true, sp_any_iff p n]
    constructor
    · rintro (⟨r, h1, h2⟩ | h)
      · exact ⟨r, by omega, h2⟩
      · exact ⟨n, by omega, h⟩
    · rintro ⟨r, h1, h2⟩
      by_cases hr : r = n
      · exact Or.inr (hr ▸ h2)
      · exact Or.inl ⟨r, by omega, h2⟩
theorem sp_m1 {q : Nat} (h : q < 2 ^ 31) : ¬ (-1 : Int32) = nI q := by
  intro e
  have := congrArg Int32.toInt e
  rw [nI_toInt h] at this
  have c : (-1 : Int32).toInt = -1 := by decide
  omega
theorem sp_lt0 {q : Nat} (h : q < 2 ^ 31) : ¬ nI q < 0 := nI_pos h
/-! sets and sums of a town -/
def sp_those (T : rb_T) (p : Int32) : Nat → Int32 := sp_fold (fun r a => if T 9 r = p then a ||| ((1 : Int32) <<< (nI r &&& 31)) else a) 0
def sp_evs (T : rb_T) (p : Int32) : Nat → Int32 := sp_fold (fun r a => if T 9 r = p then a ||| ((1 : Int32) <<< (T 6 r &&& 31)) else a) 0
abbrev sp_eR (T : rb_T) (r : Nat) : Int32 := sp_eats (T 5 r) (T 7 r) (T 8 r)
abbrev sp_nR (T : rb_T) (r : Nat) : Int32 := sp_needs (T 5 r) (T 7 r)
abbrev sp_gR (T : rb_T) (r : Nat) : Int32 := sp_grows (T 5 r) (T 7 r) (T 8 r)
def sp_eat (T : rb_T) (p : Int32) : Nat → Int32 := sp_fold (fun r a => if T 9 r = p then a + sp_eR T r else a) 0
def sp_eatA (T : rb_T) : Nat → Int32 := sp_fold (fun q a => a + sp_eat T (nI q) (sp_n T)) 0
def sp_bulks (T : rb_T) : Nat → Int32 := sp_fold (fun r a => a + T 7 r) 0
def sp_fb (T : rb_T) : Nat → Int32 := sp_fold (fun q a => a + (if 0 < T 0 q - sp_cn T q then T 0 q - sp_cn T q else 0)) 0
def sp_sum (f : Nat → Int32) : Nat → Int32 := sp_fold (fun q a => a + f q) 0
def sp_hostF (T : rb_T) (nd : Int32) : Nat → Int32 := sp_fold (fun q b => if sp_tk T q nd ∧ (b = -1 ∨ T 2 b.toNatClampNeg < T 2 q) then nI q else b) (-1)
theorem sp_hostF_s {T : rb_T} {nd : Int32} {q : Nat} : sp_hostF T nd (q + 1) = if sp_tk T q nd ∧ (sp_hostF T nd q = -1 ∨ T 2 (sp_hostF T nd q).toNatClampNeg < T 2 q) then nI q else sp_hostF T nd q := rfl
def sp_host (T : rb_T) (r : Nat) : Int32 := if sp_tr T (T 6 r) then -1 else sp_hostF T (sp_nR T r) 8
theorem sp_hostF_ok (T : rb_T) (nd : Int32) : ∀ n, n ≤ 8 → sp_hostF T nd n = -1 ∨ ∃ p, p < n ∧ sp_hostF T nd n = nI p
  | 0, _ => Or.inl rfl
  | n + 1, h => by
    have ih := sp_hostF_ok T nd n (by omega)
    unfold sp_hostF at ih ⊢
    rw [sp_fold_s]
    split
    · exact Or.inr ⟨n, by omega, rfl⟩
    · rcases ih with h | ⟨p, h1, h2⟩
      · exact Or.inl h
      · exact Or.inr ⟨p, by omega, h2⟩
theorem sp_host_ok (T : rb_T) (r : Nat) : sp_host T r = -1 ∨ ∃ p, p < 8 ∧ sp_host T r = nI p := by
  unfold sp_host
  split
  · exact Or.inl rfl
  · exact sp_hostF_ok T _ 8 (Nat.le_refl 8)
abbrev sp_min (v c : Int32) : Int32 := if v < c then v else c
/-! changes of a town -/
def sp_lod (T : rb_T) (r : Nat) (to : Int32) : rb_T := u2 T 9 r to
def sp_age (T : rb_T) (r : Nat) : rb_T := u2 T 8 r (sp_min (T 8 r + 1) 999)
def sp_feed (T : rb_T) (r : Nat) : rb_T := if T 1 (T 9 r).toNatClampNeg < sp_eR T r then u2 (u2 T 1 (T 9 r).toNatClampNeg 0) 9 r (-1) else u2 (u2 T 1 (T 9 r).toNatClampNeg (T 1 (T 9 r).toNatClampNeg - sp_eR T r)) 7 r (sp_min (T 7 r + sp_gR T r) 99)
def sp_add (T : rb_T) (k e b : Int32) : rb_T := u2 (u2 (u2 (u2 (u2 (u2 T 5 (sp_n T) k) 6 (sp_n T) e) 7 (sp_n T) b) 8 (sp_n T) 0) 9 (sp_n T) (-1)) 4 0 (T 4 0 + 1)
def sp_onr (T : rb_T) (e : Int32) (n : Nat) : Bool := sp_any (fun r => decide (T 9 r = -1) && decide (T 6 r = e)) n
def sp_pc (T : rb_T) (q e : Nat) : Nat → Nat := fb_ct (fun r => decide (T 9 r = nI q) && decide (T 6 r = nI e))
def sp_pair (T : rb_T) (q : Nat) : Nat := fa_first (fun e => decide (2 ≤ sp_pc T q e (sp_n T))) 16
/-- the bulks of the two least of an event in a house, and how many there were -/
def sp_two (T : rb_T) (q : Nat) (e : Int32) : Nat → Int32 × Nat := sp_fold (fun r a => if a.2 < 2 ∧ T 9 r = nI q ∧ T 6 r = e then (a.1 + T 7 r, a.2 + 1) else a) (0, 0)
def sp_thd (T : rb_T) (q : Nat) : rb_T := if sp_pair T q = 16 ∨ sp_n T = 10 ∨ sp_onr T (nI (sp_pair T q)) (sp_n T) = true then T else sp_add T 0 (nI (sp_pair T q)) ((sp_two T q (nI (sp_pair T q)) (sp_n T)).1 / 2)
def sp_it (f : Nat → rb_T → rb_T) (T : rb_T) (n : Nat) : rb_T := sp_fold f T n
def sp_d1 (r : Nat) (T : rb_T) : rb_T := sp_age (if T 9 r = -1 then T else sp_feed T r) r
def sp_d3 (r : Nat) (T : rb_T) : rb_T := if T 9 r = -1 then u2 T 9 r (sp_host T r) else T
def sp_day1 (T : rb_T) : rb_T := sp_it sp_d1 T (sp_n T)
def sp_day2 (T : rb_T) : rb_T := sp_it (fun q T => sp_thd T q) T 8
def sp_day3 (T : rb_T) : rb_T := sp_it sp_d3 T (sp_n T)
def sp_day (T : rb_T) : rb_T := u2 (sp_day3 (sp_day2 (sp_day1 T))) 10 0 (sp_day3 (sp_day2 (sp_day1 T)) 10 0 + 1)
def sp_days (T : rb_T) : Nat → rb_T := sp_fold (fun _ T => sp_day T) T
def sp_ct1 (r : Nat) (e : Int32) (a : rb_T × Nat) : rb_T × Nat := if a.1 6 r = e ∧ ¬ a.1 9 r = -1 then (u2 a.1 9 r (-1), a.2 + 1) else a
def sp_ctF (T : rb_T) (e : Int32) : Nat → rb_T × Nat := sp_fold (fun r a => sp_ct1 r e a) (T, 0)
/-- an event comes true: the town, and how many left -/
def sp_bt (T : rb_T) (e : Int32) : rb_T := u2 (sp_ctF T e (sp_n T)).1 11 0 ((sp_ctF T e (sp_n T)).1 11 0 ||| ((1 : Int32) <<< (e &&& 31)))
def sp_btn (T : rb_T) (e : Int32) : Int32 := nI (sp_ctF T e (sp_n T)).2
def sp_imp1 (T : rb_T) (r : Nat) (v : Int32) : rb_T := u2 T 7 r (sp_min (T 7 r + v) 99)
def sp_nx (T : rb_T) (r b : Nat) : Nat := ((T 9 r).toNatClampNeg + b) % 8
/-- the first house behind its own that takes it, looking b on -/
def sp_impF (T : rb_T) (r : Nat) : Nat := fa_first (fun b => decide (sp_tk T (sp_nx T r (b + 1)) (sp_nR T r))) 7
def sp_imp (T : rb_T) (r : Nat) (v : Int32) : rb_T := if sp_impF (sp_imp1 T r v) r < 7 then u2 (sp_imp1 T r v) 9 r (nI (sp_nx (sp_imp1 T r v) r (sp_impF (sp_imp1 T r v) r + 1))) else sp_imp1 T r v
/-! counts under a move -/
theorem sp_cnt_u9 {T : rb_T} {r : Nat} {to : Int32} (hr : r < sp_n T) (q : Nat) : sp_cnt (u2 T 9 r to) q + (if T 9 r = nI q then 1 else 0) = sp_cnt T q + (if to = nI q then 1 else 0) := by
  unfold sp_cnt
  rw [sp_n_u2 (by decide)]
  have e : (fun k => decide (u2 T 9 r to 9 k = nI q)) = fun k => if k = r then decide (to = nI q) else decide (T 9 k = nI q) := by
    funext k
    by_cases hk : k = r <;> simp [u2, va_up, hk]
  rw [e]
  have h1 := fb_ct_upd (fun k => decide (T 9 k = nI q)) (decide (to = nI q)) hr
  simp only [decide_eq_true_eq] at h1
  exact h1
theorem sp_cn_u9 {T : rb_T} {r : Nat} {to : Int32} (hr : r < sp_n T) {q : Nat} (hq : q < 8) : sp_cn (u2 T 9 r to) q = (if T 9 r = nI q then sp_cn T q - 1 else sp_cn T q) + (if to = nI q then 1 else 0) := by
  have h := sp_cnt_u9 (to := to) hr q
  unfold sp_cn
  simp only [hq, if_true]
  by_cases h1 : T 9 r = nI q <;> by_cases h2 : to = nI q <;> simp only [h1, h2, if_true, if_false] at h ⊢
  · obtain ⟨c, hc⟩ : ∃ c, sp_cnt T q = c + 1 := by
      have := (fb_ct_pos (p := fun k => decide (T 9 k = nI q)) (n := sp_n T)).mpr ⟨r, hr, by simp [h1]⟩
      exact ⟨sp_cnt T q - 1, by unfold sp_cnt at *; omega⟩
    have e : sp_cnt (u2 T 9 r (nI q)) q = c + 1 := by omega
    rw [e, hc, nI_pred, nI_1]
  · have e : sp_cnt T q = sp_cnt (u2 T 9 r to) q + 1 := by omega
    rw [e, nI_pred]; simp
  · have e : sp_cnt (u2 T 9 r (nI q)) q = sp_cnt T q + 1 := by omega
    rw [e, nI_succ]
  · have e : sp_cnt (u2 T 9 r to) q = sp_cnt T q := by omega
    rw [e]; simp
/-- what lodge(..) writes to the lodgers' row -/
def sp_lrow (T : rb_T) (r : Nat) (to : Int32) : Nat → Int32 := fun q => (if q < 8 ∧ T 9 r = nI q then sp_cn T q - 1 else sp_cn T q) + (if q < 8 ∧ to = nI q then 1 else 0)
theorem sp_lrow_cn {T : rb_T} {r : Nat} {to : Int32} (hr : r < sp_n T) : sp_lrow T r to = sp_cn (u2 T 9 r to) := by
  funext q
  by_cases hq : q < 8
  · rw [sp_cn_u9 hr hq]
    simp [sp_lrow, hq]
  · simp [sp_lrow, sp_cn, hq]
theorem wl_u9 {T : rb_T} {r : Nat} {to : Int32} {f : Nat → Int32} (hr : r < sp_n T) (hf : f = sp_lrow T r to) : u2 (va_up (wl T) 3 f) 9 r to = wl (u2 T 9 r to) := by
  rw [hf, sp_lrow_cn hr]
  unfold wl
  funext a b
  simp only [u2, va_up]
  by_cases ha : a = 3
  · subst ha; simp
  · by_cases h9 : a = 9
    · subst h9; simp
    · simp [ha, h9]
theorem va_upS {f : Nat → Int32} {i : Nat} : va_up f i (f i) = f := by
  funext q; simp only [va_up]; split
  · rename_i z; rw [z]
  · rfl
theorem va_up_up {f : rb_T} {j : Nat} {a b : Nat → Int32} : va_up (va_up f j a) j b = va_up f j b := by
  funext q; simp only [va_up]; split <;> rfl
theorem u2_va {T : rb_T} {j i : Nat} {v : Int32} : u2 T j i v = va_up T j (va_up (T j) i v) := rfl
theorem sp_lrow_1 {T : rb_T} {r : Nat} {p : Nat} (h : T 9 r = -1) : sp_lrow T r (-1) = sp_cn T := by
  funext q
  by_cases hq : q < 8
  · have := sp_m1 (q := q) (by omega)
    simp [sp_lrow, h, this]
  · simp [sp_lrow, hq]
theorem sp_lrow_2 {T : rb_T} {r p : Nat} (hp : p < 8) (h : T 9 r = nI p) : sp_lrow T r (-1) = va_up (sp_cn T) p (sp_cn T p - 1) := by
  funext q
  simp only [sp_lrow, va_up]
  by_cases hq : q < 8
  · have h1 := sp_m1 (q := q) (by omega)
    have h2 : (nI p = nI q) ↔ p = q := nI_eq (by omega) (by omega)
    by_cases e : q = p
    · subst e; simp [hq, h, h1]
    · simp [hq, h, h1, h2, e, Ne.symm e]
  · have : ¬ q = p := by omega
    simp [hq, this]
theorem sp_lrow_3 {T : rb_T} {r p : Nat} (hp : p < 8) (h : T 9 r = -1) : sp_lrow T r (nI p) = va_up (sp_cn T) p (sp_cn T p + 1) := by
  funext q
  simp only [sp_lrow, va_up]
  by_cases hq : q < 8
  · have h1 := sp_m1 (q := q) (by omega)
    have h2 : (nI p = nI q) ↔ p = q := nI_eq (by omega) (by omega)
    by_cases e : q = p
    · subst e; simp [hq, h, h1]
    · simp [hq, h, h1, h2, e, Ne.symm e]
  · have : ¬ q = p := by omega
    simp [hq, this]
theorem sp_lrow_4 {T : rb_T} {r p p2 : Nat} (hp : p < 8) (hp2 : p2 < 8) (h : T 9 r = nI p) : sp_lrow T r (nI p2) = va_up (va_up (sp_cn T) p (sp_cn T p - 1)) p2 (va_up (sp_cn T) p (sp_cn T p - 1) p2 + 1) := by
  funext q
  simp only [sp_lrow, va_up]
  by_cases hq : q < 8
  · have h2 : (nI p = nI q) ↔ p = q := nI_eq (by omega) (by omega)
    have h3 : (nI p2 = nI q) ↔ p2 = q := nI_eq (by omega) (by omega)
    by_cases e : q = p <;> by_cases e2 : q = p2
    · subst e; subst e2; simp [hq, h]
    · subst e; simp [hq, h, h3, e2, Ne.symm e2]
    · subst e2; simp [hq, h, h2, e, Ne.symm e]
    · simp [hq, h, h2, h3, e, e2, Ne.symm e, Ne.symm e2]
  · have e1 : ¬ q = p := by omega
    have e2 : ¬ q = p2 := by omega
    simp [hq, e1, e2]
