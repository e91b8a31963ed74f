section RB3
variable {Z : rb_Z} {G : rb_G} {cc : ByteArray} {nL : Nat} {own : String} {k pc : Nat} {L S : List Value} {h : rb_H}
/-- one case of a switch split off -/
theorem rc_tabC (X : rb_CX Z G cc nL own k) {dflt lo hi : Int} {offs : Array Int} {len i : Nat} {x v : Int32} {off : Int} {tgt : Nat} (d : decode cc pc = .ok (.tableswitch dflt lo hi offs, len)) (hv : v.toInt = lo + i) (hv2 : lo + i ≤ hi) (ho : offs[i]? = some off) (ht : (pc : Int) + off = (tgt : Int)) (kt : x = v → rb_WP Z G nL tgt L S h) (kf : ¬ x = v → rb_WP Z G nL pc L (.int x :: S) h) : rb_WP Z G nL pc L (.int x :: S) h := by
  by_cases hx : x = v
  · have e1 : (x.toInt - lo).toNat = i := by rw [hx, hv]; omega
    exact rb_tabIn X d (by rw [hx, hv]; omega) (by rw [hx, hv]; omega) (by rw [e1]; exact ho) ht (kt hx)
  · exact kf hx
end RB3
/-! numbers -/
theorem sp_lt8 {x : Int32} (h1 : 0 ≤ x) (h2 : ¬ (8 : Int32) ≤ x) : ∃ q, q < 8 ∧ x = nI q := by
  have a := Int32.le_iff_toInt_le.mp h1
  have b : ¬ (8 : Int32).toInt ≤ x.toInt := fun z => h2 (Int32.le_iff_toInt_le.mpr z)
  have c : (8 : Int32).toInt = 8 := by decide
  have c0 : (0 : Int32).toInt = 0 := by decide
  rw [c0] at a; rw [c] at b
  refine ⟨x.toInt.toNat, by omega, ?_⟩
  apply Int32.toInt_inj.mp
  rw [nI_toInt (by omega)]
  omega
theorem sp_geI {i n : Nat} {x : Int32} (hx : x = nI n) (hn : n < 2 ^ 31) (hi : i < 2 ^ 31) : (x ≤ nI i) ↔ n ≤ i := by rw [hx]; exact nI_leI hn hi
/-! what a kind eats, needs, grows -/
def sp_eats (k b a : Int32) : Int32 := if k = 1 then 2 * (b / 10 + 1) else if k = 2 then 1 else if k = 3 then (if 0 < b / 10 + 1 - a / 10 then b / 10 + 1 - a / 10 else 0) else if k = 4 then 2 * (b / 10 + 1) + 3 else if k = 5 then 0 else b / 10 + 1
def sp_big (b : Int32) : Int32 := if b < 20 then 1 else 3
def sp_needs (k b : Int32) : Int32 := if k = 1 then sp_big b else if k = 2 then 6 else if k = 3 then 4 else if k = 4 then sp_big b - 1 else if k = 5 then 7 else 3
def sp_grows (k b a : Int32) : Int32 := if k = 1 then b / 10 + 1 else if k = 2 then 0 else if k = 3 then (if a - a / 2 * 2 = 0 then 1 else 0) else if k = 4 then b / 10 + 1 else if k = 5 then 0 else 1
/-! a town: rows 0 beds, 1 larders, 2 leans, 3 lodgers (recounted), 4 rumours, 5 kinds, 6 events, 7 bulks, 8 ages, 9 places, 10 day, 11 true -/
def sp_n (T : rb_T) : Nat := (T 4 0).toNatClampNeg
def sp_cnt (T : rb_T) (q : Nat) : Nat := fb_ct (fun r => decide (T 9 r = nI q)) (sp_n T)
def sp_cn (T : rb_T) : Nat → Int32 := fun q => if q < 8 then nI (sp_cnt T q) else 0
/-- the town as the class holds it -/
def wl (T : rb_T) : rb_T := va_up T 3 (sp_cn T)
def u2 (T : rb_T) (j i : Nat) (v : Int32) : rb_T := va_up T j (va_up (T j) i v)
def rb_st (h : rb_H) (o : Nat) (M : rb_T) : rb_H := (va_up h.1 o M, h.2)
abbrev tw (h : rb_H) (t : Nat) (T : rb_T) : rb_H := rb_st h t (wl T)
def sp_okR (T : rb_T) (r : Nat) : Prop := (∃ k, k < 6 ∧ T 5 r = nI k) ∧ (∃ e, e < 16 ∧ T 6 r = nI e) ∧ (∃ b, b ≤ 99 ∧ T 7 r = nI b) ∧ (∃ a, a ≤ 999 ∧ T 8 r = nI a) ∧ (T 9 r = -1 ∨ ∃ p, p < 8 ∧ T 9 r = nI p)
def sp_okH (T : rb_T) (q : Nat) : Prop := (∃ b, b ≤ 3 ∧ T 0 q = nI b) ∧ (∃ l, l ≤ 999 ∧ T 1 q = nI l) ∧ (∃ l, l ≤ 9 ∧ T 2 q = nI l)
def sp_ok (T : rb_T) : Prop := T 4 0 = nI (sp_n T) ∧ sp_n T ≤ 10 ∧ (∀ r, r < 10 → sp_okR T r) ∧ (∀ q, q < 8 → sp_okH T q)
theorem rb_st_at (h : rb_H) (o : Nat) (M : rb_T) : (rb_st h o M).1 o = M := by simp [rb_st, va_up]
theorem rb_st_ne {h : rb_H} {o o' : Nat} {M : rb_T} (hn : o' ≠ o) : (rb_st h o M).1 o' = h.1 o' := by simp [rb_st, va_up, hn]
theorem rb_st_st {h : rb_H} {o : Nat} {M M' : rb_T} : rb_st (rb_st h o M) o M' = rb_st h o M' := by
  unfold rb_st
  congr 1
  funext q
  simp only [va_up]
  split <;> rfl
theorem rb_st_self {h : rb_H} {o : Nat} {M : rb_T} (e : h.1 o = M) : rb_st h o M = h := by
  unfold rb_st
  have : va_up h.1 o M = h.1 := by
    funext q
    simp only [va_up]
    split
    · rename_i z; rw [z, e]
    · rfl
  rw [this]
theorem rb_u_st {h : rb_H} {o j i : Nat} {M : rb_T} {v : Int32} : rb_u (rb_st h o M) o j i v = rb_st h o (u2 M j i v) := by
  unfold rb_u u2
  rw [rb_st_at]
  show (va_up (va_up h.1 o M) o _, h.2) = _
  unfold rb_st
  congr 1
  funext q
  simp only [va_up]
  split <;> rfl
theorem rb_row_st {h : rb_H} {o j : Nat} {M : rb_T} {f : Nat → Int32} : rb_row (rb_st h o M) o j f = rb_st h o (va_up M j f) := by
  unfold rb_row
  rw [rb_st_at]
  show (va_up (va_up h.1 o M) o _, h.2) = _
  unfold rb_st
  congr 1
  funext q
  simp only [va_up]
  split <;> rfl
theorem rb_tj0 {h : rb_H} {t : Nat} {T : rb_T} : (tw h t T).1 t 0 = T 0 := congrFun (rb_st_at h t (wl T)) 0
theorem rb_tf0 {h : rb_H} {t : Nat} {T : rb_T} : (tw h t T).1 t 0 0 = T 0 0 := congrFun rb_tj0 0
theorem rb_tj1 {h : rb_H} {t : Nat} {T : rb_T} : (tw h t T).1 t 1 = T 1 := congrFun (rb_st_at h t (wl T)) 1
theorem rb_tf1 {h : rb_H} {t : Nat} {T : rb_T} : (tw h t T).1 t 1 0 = T 1 0 := congrFun rb_tj1 0
theorem rb_tj2 {h : rb_H} {t : Nat} {T : rb_T} : (tw h t T).1 t 2 = T 2 := congrFun (rb_st_at h t (wl T)) 2
theorem rb_tf2 {h : rb_H} {t : Nat} {T : rb_T} : (tw h t T).1 t 2 0 = T 2 0 := congrFun rb_tj2 0
theorem rb_tj3 {h : rb_H} {t : Nat} {T : rb_T} : (tw h t T).1 t 3 = sp_cn T := congrFun (rb_st_at h t (wl T)) 3
theorem rb_tf3 {h : rb_H} {t : Nat} {T : rb_T} : (tw h t T).1 t 3 0 = sp_cn T 0 := congrFun rb_tj3 0
theorem rb_tj4 {h : rb_H} {t : Nat} {T : rb_T} : (tw h t T).1 t 4 = T 4 := congrFun (rb_st_at h t (wl T)) 4
theorem rb_tf4 {h : rb_H} {t : Nat} {T : rb_T} : (tw h t T).1 t 4 0 = T 4 0 := congrFun rb_tj4 0
theorem rb_tj5 {h : rb_H} {t : Nat} {T : rb_T} : (tw h t T).1 t 5 = T 5 := congrFun (rb_st_at h t (wl T)) 5
theorem rb_tf5 {h : rb_H} {t : Nat} {T : rb_T} : (tw h t T).1 t 5 0 = T 5 0 := congrFun rb_tj5 0
theorem rb_tj6 {h : rb_H} {t : Nat} {T : rb_T} : (tw h t T).1 t 6 = T 6 := congrFun (rb_st_at h t (wl T)) 6
theorem rb_tf6 {h : rb_H} {t : Nat} {T : rb_T} : (tw h t T).1 t 6 0 = T 6 0 := congrFun rb_tj6 0
theorem rb_tj7 {h : rb_H} {t : Nat} {T : rb_T} : (tw h t T).1 t 7 = T 7 := congrFun (rb_st_at h t (wl T)) 7
theorem rb_tf7 {h : rb_H} {t : Nat} {T : rb_T} : (tw h t T).1 t 7 0 = T 7 0 := congrFun rb_tj7 0
theorem rb_tj8 {h : rb_H} {t : Nat} {T : rb_T} : (tw h t T).1 t 8 = T 8 := congrFun (rb_st_at h t (wl T)) 8
theorem rb_tf8 {h : rb_H} {t : Nat} {T : rb_T} : (tw h t T).1 t 8 0 = T 8 0 := congrFun rb_tj8 0
theorem rb_tj9 {h : rb_H} {t : Nat} {T : rb_T} : (tw h t T).1 t 9 = T 9 := congrFun (rb_st_at h t (wl T)) 9
theorem rb_tf9 {h : rb_H} {t : Nat} {T : rb_T} : (tw h t T).1 t 9 0 = T 9 0 := congrFun rb_tj9 0
theorem rb_tj10 {h : rb_H} {t : Nat} {T : rb_T} : (tw h t T).1 t 10 = T 10 := congrFun (rb_st_at h t (wl T)) 10
theorem rb_tf10 {h : rb_H} {t : Nat} {T : rb_T} : (tw h t T).1 t 10 0 = T 10 0 := congrFun rb_tj10 0
theorem rb_tj11 {h : rb_H} {t : Nat} {T : rb_T} : (tw h t T).1 t 11 = T 11 := congrFun (rb_st_at h t (wl T)) 11
theorem rb_tf11 {h : rb_H} {t : Nat} {T : rb_T} : (tw h t T).1 t 11 0 = T 11 0 := congrFun rb_tj11 0
theorem u2_same {T : rb_T} {j i : Nat} {v : Int32} : u2 T j i v j i = v := by simp [u2, va_up]
theorem u2_row {T : rb_T} {j i j' : Nat} {v : Int32} (h : j' ≠ j) : u2 T j i v j' = T j' := by simp [u2, va_up, h]
theorem u2_ne {T : rb_T} {j i i' : Nat} {v : Int32} (h : i' ≠ i) : u2 T j i v j i' = T j i' := by simp [u2, va_up, h]
theorem sp_n_u2 {T : rb_T} {j i : Nat} {v : Int32} (h : j ≠ 4) : sp_n (u2 T j i v) = sp_n T := by unfold sp_n; rw [u2_row (Ne.symm h)]
theorem sp_cn_u2 {T : rb_T} {j i : Nat} {v : Int32} (h4 : j ≠ 4) (h9 : j ≠ 9) : sp_cn (u2 T j i v) = sp_cn T := by
  funext q
  unfold sp_cn sp_cnt
  rw [sp_n_u2 h4, u2_row (Ne.symm h9)]
/-- a row that no count rests on -/
theorem wl_u2 {T : rb_T} {j i : Nat} {v : Int32} (h3 : j ≠ 3) (h4 : j ≠ 4) (h9 : j ≠ 9) : u2 (wl T) j i v = wl (u2 T j i v) := by
  unfold wl
  rw [sp_cn_u2 h4 h9]
  funext a b
  simp only [u2, va_up]
  by_cases ha : a = 3
  · subst ha; simp [Ne.symm h3]
  · by_cases hj : a = j
    · subst hj; simp [ha]
    · simp [ha, hj]
theorem tw_u {h : rb_H} {t j i : Nat} {T : rb_T} {v : Int32} (h3 : j ≠ 3) (h4 : j ≠ 4) (h9 : j ≠ 9) : rb_u (tw h t T) t j i v = tw h t (u2 T j i v) := by rw [rb_u_st, wl_u2 h3 h4 h9]
