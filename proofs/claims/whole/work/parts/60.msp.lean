/-! the model's row of a town -/
def enc (T : rb_T) : Nat → Int32 := fun k => if k = 0 then T 4 0 else if k = 1 then T 10 0 else if k = 2 then T 11 0 else if k < 27 then T ((k - 3) % 3) ((k - 3) / 3) else if k < 77 then T (5 + (k - 27) % 5) ((k - 27) / 5) else 0
abbrev ms (h : rb_H) (T : rb_T) : rb_H := rb_row h 9 0 (enc T)
theorem enc_h {T : rb_T} {q w : Nat} (hq : q < 8) (hw : w < 3) : enc T (3 + 3 * q + w) = T w q := by
  unfold enc
  rw [if_neg (by omega), if_neg (by omega), if_neg (by omega), if_pos (by omega), show (3 + 3 * q + w - 3) % 3 = w by omega, show (3 + 3 * q + w - 3) / 3 = q by omega]
theorem enc_r {T : rb_T} {r w : Nat} (hr : r < 10) (hw : w < 5) : enc T (27 + 5 * r + w) = T (5 + w) r := by
  unfold enc
  rw [if_neg (by omega), if_neg (by omega), if_neg (by omega), if_neg (by omega), if_pos (by omega), show (27 + 5 * r + w - 27) % 5 = w by omega, show (27 + 5 * r + w - 27) / 5 = r by omega]
theorem u2_if2 {T : rb_T} {j i a b : Nat} {v : Int32} : u2 T j i v a b = if a = j ∧ b = i then v else T a b := by
  by_cases h1 : a = j
  · subst h1
    by_cases h2 : b = i <;> simp [u2, va_up, h2]
  · simp [u2, va_up, h1]
theorem enc_uh {T : rb_T} {q w : Nat} {v : Int32} (hq : q < 8) (hw : w < 3) : va_up (enc T) (3 + 3 * q + w) v = enc (u2 T w q v) := by
  funext k
  unfold enc
  simp only [va_up, u2_if2]
  by_cases e : k = 3 + 3 * q + w
  · subst e
    rw [if_pos rfl, if_neg (by omega), if_neg (by omega), if_neg (by omega), if_pos (by omega), if_pos ⟨by omega, by omega⟩]
  · rw [if_neg e]
    repeat' split
    all_goals first | rfl | (exfalso; omega)
theorem enc_ur {T : rb_T} {r w : Nat} {v : Int32} (hr : r < 10) (hw : w < 5) : va_up (enc T) (27 + 5 * r + w) v = enc (u2 T (5 + w) r v) := by
  funext k
  unfold enc
  simp only [va_up, u2_if2]
  by_cases e : k = 27 + 5 * r + w
  · subst e
    rw [if_pos rfl, if_neg (by omega), if_neg (by omega), if_neg (by omega), if_neg (by omega), if_pos (by omega), if_pos ⟨by omega, by omega⟩]
  · rw [if_neg e]
    repeat' split
    all_goals first | rfl | (exfalso; omega)
theorem enc_u0 {T : rb_T} {v : Int32} : va_up (enc T) 0 v = enc (u2 T 4 0 v) := by
  funext k
  unfold enc
  simp only [va_up]
  by_cases e : k = 0
  · subst e; simp [u2, va_up]
  · simp only [e, if_false]
    repeat' split
    all_goals first | rfl | (rw [u2_row (by omega)])
theorem enc_u1 {T : rb_T} {v : Int32} : va_up (enc T) 1 v = enc (u2 T 10 0 v) := by
  funext k
  unfold enc
  simp only [va_up]
  by_cases e : k = 1
  · subst e; simp [u2, va_up]
  · simp only [e, if_false]
    repeat' split
    all_goals first | rfl | (rw [u2_row (by omega)])
theorem enc_u2 {T : rb_T} {v : Int32} : va_up (enc T) 2 v = enc (u2 T 11 0 v) := by
  funext k
  unfold enc
  simp only [va_up]
  by_cases e : k = 2
  · subst e; simp [u2, va_up]
  · simp only [e, if_false]
    repeat' split
    all_goals first | rfl | (rw [u2_row (by omega)])
theorem ms_at {h : rb_H} {T : rb_T} : (ms h T).1 9 0 = enc T := rb_row_same
theorem ms_ne {h : rb_H} {T : rb_T} {j : Nat} (hj : j ≠ 0) : (ms h T).1 9 j = h.1 9 j := rb_row_ne (fun z => hj z.2)
theorem rb_row_row {h : rb_H} {o j : Nat} {f g : Nat → Int32} : rb_row (rb_row h o j f) o j g = rb_row h o j g := by
  refine Prod.ext ?_ rfl
  funext a b
  simp only [rb_row, va_up]
  by_cases e : a = o
  · subst e
    by_cases e2 : b = j <;> simp [va_up, e2]
  · simp [e]
theorem rb_row_self {h : rb_H} {o j : Nat} {f : Nat → Int32} (e : h.1 o j = f) : rb_row h o j f = h := by
  refine Prod.ext ?_ rfl
  funext a b
  simp only [rb_row, va_up]
  by_cases e1 : a = o
  · subst e1
    by_cases e2 : b = j
    · subst e2; simp [va_up, e]
    · simp [va_up, e2]
  · simp [e1]
theorem rb_row_sw {h : rb_H} {o j j' : Nat} {f g : Nat → Int32} (hn : j ≠ j') : rb_row (rb_row h o j f) o j' g = rb_row (rb_row h o j' g) o j f := by
  refine Prod.ext ?_ rfl
  funext a b
  simp only [rb_row, va_up]
  by_cases e1 : a = o
  · subst e1
    by_cases e2 : b = j
    · subst e2; simp [va_up, hn]
    · by_cases e3 : b = j'
      · subst e3; simp [va_up, e2]
      · simp [va_up, e2, e3]
  · simp [e1]
theorem ms_u {h : rb_H} {T : rb_T} {k : Nat} {v : Int32} : rb_u (ms h T) 9 0 k v = rb_row h 9 0 (va_up (enc T) k v) := by rw [rb_u_row, rb_row_same, rb_row_row]
theorem ms_0 {h : rb_H} {T : rb_T} : (ms h T).1 9 0 0 = T 4 0 := congrFun ms_at 0
theorem ms_1 {h : rb_H} {T : rb_T} : (ms h T).1 9 0 1 = T 10 0 := congrFun ms_at 1
theorem ms_2 {h : rb_H} {T : rb_T} : (ms h T).1 9 0 2 = T 11 0 := congrFun ms_at 2
theorem ms_u0 {h : rb_H} {T : rb_T} {v : Int32} : rb_u (ms h T) 9 0 0 v = ms h (u2 T 4 0 v) := by rw [ms_u, enc_u0]
theorem ms_u1 {h : rb_H} {T : rb_T} {v : Int32} : rb_u (ms h T) 9 0 1 v = ms h (u2 T 10 0 v) := by rw [ms_u, enc_u1]
theorem ms_u2 {h : rb_H} {T : rb_T} {v : Int32} : rb_u (ms h T) 9 0 2 v = ms h (u2 T 11 0 v) := by rw [ms_u, enc_u2]
section MR
variable {h : rb_H} {T : rb_T} {v : Int32} {r q : Nat}
theorem ms_g0 (hr : r < 10) : (ms h T).1 9 0 (27 + 5 * r + 0) = T 5 r := (congrFun ms_at _).trans (enc_r hr (by decide))
theorem ms_g1 (hr : r < 10) : (ms h T).1 9 0 (27 + 5 * r + 1) = T 6 r := (congrFun ms_at _).trans (enc_r hr (by decide))
theorem ms_g2 (hr : r < 10) : (ms h T).1 9 0 (27 + 5 * r + 2) = T 7 r := (congrFun ms_at _).trans (enc_r hr (by decide))
theorem ms_g3 (hr : r < 10) : (ms h T).1 9 0 (27 + 5 * r + 3) = T 8 r := (congrFun ms_at _).trans (enc_r hr (by decide))
theorem ms_g4 (hr : r < 10) : (ms h T).1 9 0 (27 + 5 * r + 4) = T 9 r := (congrFun ms_at _).trans (enc_r hr (by decide))
theorem ms_h0 (hq : q < 8) : (ms h T).1 9 0 (3 + 3 * q + 0) = T 0 q := (congrFun ms_at _).trans (enc_h hq (by decide))
theorem ms_h1 (hq : q < 8) : (ms h T).1 9 0 (3 + 3 * q + 1) = T 1 q := (congrFun ms_at _).trans (enc_h hq (by decide))
theorem ms_h2 (hq : q < 8) : (ms h T).1 9 0 (3 + 3 * q + 2) = T 2 q := (congrFun ms_at _).trans (enc_h hq (by decide))
theorem ms_r0 (hr : r < 10) : rb_u (ms h T) 9 0 (27 + 5 * r + 0) v = ms h (u2 T 5 r v) := by rw [ms_u, enc_ur hr (by decide)]
theorem ms_r1 (hr : r < 10) : rb_u (ms h T) 9 0 (27 + 5 * r + 1) v = ms h (u2 T 6 r v) := by rw [ms_u, enc_ur hr (by decide)]
theorem ms_r2 (hr : r < 10) : rb_u (ms h T) 9 0 (27 + 5 * r + 2) v = ms h (u2 T 7 r v) := by rw [ms_u, enc_ur hr (by decide)]
theorem ms_r3 (hr : r < 10) : rb_u (ms h T) 9 0 (27 + 5 * r + 3) v = ms h (u2 T 8 r v) := by rw [ms_u, enc_ur hr (by decide)]
theorem ms_r4 (hr : r < 10) : rb_u (ms h T) 9 0 (27 + 5 * r + 4) v = ms h (u2 T 9 r v) := by rw [ms_u, enc_ur hr (by decide)]
theorem ms_p0 (hq : q < 8) : rb_u (ms h T) 9 0 (3 + 3 * q + 0) v = ms h (u2 T 0 q v) := by rw [ms_u, enc_uh hq (by decide)]
theorem ms_p1 (hq : q < 8) : rb_u (ms h T) 9 0 (3 + 3 * q + 1) v = ms h (u2 T 1 q v) := by rw [ms_u, enc_uh hq (by decide)]
theorem ms_p2 (hq : q < 8) : rb_u (ms h T) 9 0 (3 + 3 * q + 2) v = ms h (u2 T 2 q v) := by rw [ms_u, enc_uh hq (by decide)]
end MR
section RBv
variable {Z : rb_Z} {G : rb_G} {cc : ByteArray} {nL : Nat} {own : String} {k pc : Nat} {L S : List Value} {h : rb_H}
theorem rc_ialdv (X : rb_CX Z G cc nL own k) {o j n : Nat} {i v : Int32} (q : Nat) (a : rb_ar o j 0 n) (hv : h.1 o j q = v) (hi : i = nI q) (hq : q < n) (d : decode cc pc = .ok (.iaload, 1)) (kk : rb_WP Z G nL (pc + 1) L (.int v :: S) h) (hn : n < 2 ^ 31 := by decide) : rb_WP Z G nL pc L (.int i :: .ref (rb_ad G o (j + 1)) :: S) h :=
  rb_iald X q a.1 a.2 hi hq d (by rw [hv]; exact kk) hn
end RBv
/-! sets of at most ten, by bits -/
def mk (P : Nat → Bool) : Nat → Int32 := sp_fold (fun r a => if P r = true then a ||| ((1 : Int32) <<< (nI r &&& 31)) else a) 0
def mkN (P : Nat → Bool) : Nat → Nat := sp_fold (fun r a => if P r = true then a + 2 ^ r else a) 0
def oc (m : Nat) : Nat := fb_ct (fun i => m.testBit i) 10
theorem mk_s {P : Nat → Bool} {n : Nat} : mk P (n + 1) = if P n = true then mk P n ||| ((1 : Int32) <<< (nI n &&& 31)) else mk P n := rfl
theorem mkN_s {P : Nat → Bool} {n : Nat} : mkN P (n + 1) = if P n = true then mkN P n + 2 ^ n else mkN P n := rfl
theorem mk_or : ∀ r, r < 10 → ∀ m, m < 2 ^ r → nI m ||| ((1 : Int32) <<< (nI r &&& 31)) = nI (m + 2 ^ r) ∧ oc (m + 2 ^ r) = oc m + 1 := by decide +kernel
theorem oc_dn : ∀ m, m < 1024 → m ≠ 0 → nI m &&& (nI m - 1) = nI (m &&& (m - 1)) ∧ oc m = oc (m &&& (m - 1)) + 1 ∧ (m &&& (m - 1)) < m := by decide +kernel
theorem mkN_lt {P : Nat → Bool} : ∀ n, mkN P n < 2 ^ n
  | 0 => by show 0 < 2 ^ 0; decide
  | n + 1 => by
    have := mkN_lt (P := P) n
    rw [mkN_s, Nat.pow_succ]
    split <;> omega
theorem mk_N {P : Nat → Bool} : ∀ n, n ≤ 10 → mk P n = nI (mkN P n) ∧ oc (mkN P n) = fb_ct P n
  | 0, _ => ⟨rfl, by show oc 0 = 0; decide⟩
  | n + 1, h => by
    obtain ⟨h1, h2⟩ := mk_N (P := P) n (by omega)
    obtain ⟨h3, h4⟩ := mk_or n (by omega) _ (mkN_lt (P := P) n)
    rw [mk_s, mkN_s, fb_ct_succ]
    split
    · rename_i c; exact ⟨by rw [h1, h3], by rw [h4, h2]⟩
    · exact ⟨h1, h2⟩
theorem mk_bt {P : Nat → Bool} {r : Nat} (hr : r < 32) : ∀ n, n ≤ 32 → bt (mk P n) r = (decide (r < n) && P r)
  | 0, _ => by rw [show mk P 0 = 0 from rfl, b_0]; simp
  | n + 1, h => by
    have ih := mk_bt (P := P) hr n (by omega)
    rw [mk_s]
    by_cases c : P n = true
    · rw [if_pos c, b_or, ih, sp_bit n (by omega) r hr]
      by_cases e : r = n
      · subst e; simp [c]
      · have : (r < n + 1) ↔ r < n := by omega
        simp [e, this]
    · rw [if_neg c, ih]
      by_cases e : r = n
      · subst e; simp [c]
      · have : (r < n + 1) ↔ r < n := by omega
        simp [this]
theorem those_mk {T : rb_T} {p : Int32} : ∀ n, sp_those T p n = mk (fun r => decide (T 9 r = p)) n
  | 0 => rfl
  | n + 1 => by
    rw [mk_s, ← those_mk n]
    unfold sp_those
    rw [sp_fold_s]
    simp only [decide_eq_true_eq]
/-- those of an event in a house -/
def sp_lo (T : rb_T) (q e : Int32) : Nat → Int32 := mk (fun r => decide (T 9 r = q) && decide (T 6 r = e))
theorem or_if {P : Prop} [Decidable P] {a b : Int32} : a ||| (if P then b else 0) = if P then a ||| b else a := by
  split
  · rfl
  · apply b_ext; intro i hi; rw [b_or, b_0, Bool.or_false]
theorem add_if {P : Prop} [Decidable P] {a b : Int32} : a + (if P then b else 0) = if P then a + b else a := by
  split
  · rfl
  · exact Int32.add_zero a
theorem u2_self {T : rb_T} {j i : Nat} {v : Int32} (h : T j i = v) : u2 T j i v = T := by
  funext a b
  rw [u2_if2]
  split
  · rename_i z; rw [z.1, z.2, h]
  · rfl
