/-! the tape: what is in hand is told by where it begins -/
def ts1 (b : Int32) : Int32 := if 97 ≤ b ∧ b ≤ 122 then 1 else if 48 ≤ b ∧ b ≤ 57 then 2 else if b = 59 then 3 else if b = 32 then 4 else 5
def sk (P : Nat → Bool) (n : Nat) : Nat → Nat → Nat
  | 0, p => p
  | m + 1, p => if p < n ∧ P p = true then sk P n m (p + 1) else p
def skp (P : Nat → Bool) (n p : Nat) : Nat := sk P n (n - p) p
theorem skp_t {P : Nat → Bool} {n p : Nat} (h : p < n) (hp : P p = true) : skp P n p = skp P n (p + 1) := by
  unfold skp
  rw [show n - p = (n - (p + 1)) + 1 by omega, sk, if_pos ⟨h, hp⟩]
theorem skp_f {P : Nat → Bool} {n p : Nat} (h : ¬ (p < n ∧ P p = true)) : skp P n p = p := by
  unfold skp
  cases n - p with
  | zero => rfl
  | succ m => rw [sk, if_neg h]
theorem sk_le {P : Nat → Bool} {n : Nat} : ∀ m p, p ≤ n → p ≤ sk P n m p ∧ sk P n m p ≤ n
  | 0, p, h => ⟨Nat.le_refl _, h⟩
  | m + 1, p, h => by
    rw [sk]
    split
    · rename_i z
      have := sk_le (P := P) (n := n) m (p + 1) (by omega)
      omega
    · exact ⟨Nat.le_refl _, h⟩
theorem skp_le {P : Nat → Bool} {n p : Nat} (h : p ≤ n) : p ≤ skp P n p ∧ skp P n p ≤ n := sk_le _ _ h
theorem sk_n {P : Nat → Bool} {n : Nat} : ∀ m p, n ≤ p + m → ¬ (sk P n m p < n ∧ P (sk P n m p) = true)
  | 0, p, h => by rw [sk]; omega
  | m + 1, p, h => by
    rw [sk]
    split
    · exact sk_n m (p + 1) (by omega)
    · rename_i z; exact z
theorem skp_n {P : Nat → Bool} {n p : Nat} : ¬ (skp P n p < n ∧ P (skp P n p) = true) := sk_n _ _ (by omega)
def tB (f : Nat → Int32) (k : Nat) : Bool := decide (ts1 (f k) = 4)
def tS (f : Nat → Int32) (n a : Nat) : Int32 := if a < n then ts1 (f a) else 0
def tE (f : Nat → Int32) (n a : Nat) : Nat := if a < n then (if ts1 (f a) = 1 ∨ ts1 (f a) = 2 then skp (fun k => decide (ts1 (f k) = ts1 (f a))) n (a + 1) else a + 1) else a
def tVf (f : Nat → Int32) (a : Nat) : Nat → Int32
  | 0 => 0
  | m + 1 => if 10 * tVf f a m + f (a + m) - 48 < 1000 then 10 * tVf f a m + f (a + m) - 48 else 1000
def tV (f : Nat → Int32) (n a : Nat) : Int32 := if tS f n a = 2 then tVf f a (tE f n a - a) else 0
/-- where the next word begins -/
def tN (f : Nat → Int32) (n a : Nat) : Nat := skp (tB f) n (tE f n a)
theorem tE_le {f : Nat → Int32} {n a : Nat} (h : a ≤ n) : a ≤ tE f n a ∧ tE f n a ≤ n := by
  unfold tE
  split
  · split
    · have := skp_le (P := fun k => decide (ts1 (f k) = ts1 (f a))) (n := n) (p := a + 1) (by omega)
      omega
    · omega
  · omega
theorem tE_lt {f : Nat → Int32} {n a : Nat} (h : a < n) : a < tE f n a := by
  unfold tE
  rw [if_pos h]
  split
  · have := skp_le (P := fun k => decide (ts1 (f k) = ts1 (f a))) (n := n) (p := a + 1) (by omega)
    omega
  · omega
theorem tN_le {f : Nat → Int32} {n a : Nat} (h : a ≤ n) : a ≤ tN f n a ∧ tN f n a ≤ n := by
  have h1 := tE_le (f := f) h
  have h2 := skp_le (P := tB f) h1.2
  unfold tN
  omega
theorem tN_lt {f : Nat → Int32} {n a : Nat} (h : a < n) : a < tN f n a := by
  have h1 := tE_lt (f := f) h
  have h2 := skp_le (P := tB f) (tE_le (f := f) (Nat.le_of_lt h)).2
  unfold tN
  omega
/-- the tape's object: what is told of the hand -/
def h4 (M : rb_T) (s a b v : Int32) : rb_T := u2 (u2 (u2 (u2 M 2 0 s) 3 0 a) 4 0 b) 5 0 v
theorem h4_2 {M : rb_T} {s a b v x : Int32} : u2 (h4 M s a b v) 2 0 x = h4 M x a b v := by
  funext j i
  by_cases e2 : j = 2 <;> by_cases e3 : j = 3 <;> by_cases e4 : j = 4 <;> by_cases e5 : j = 5 <;> by_cases e : i = 0 <;> simp_all [h4, u2, va_up]
theorem h4_3 {M : rb_T} {s a b v x : Int32} : u2 (h4 M s a b v) 3 0 x = h4 M s x b v := by
  funext j i
  by_cases e2 : j = 2 <;> by_cases e3 : j = 3 <;> by_cases e4 : j = 4 <;> by_cases e5 : j = 5 <;> by_cases e : i = 0 <;> simp_all [h4, u2, va_up]
theorem h4_4 {M : rb_T} {s a b v x : Int32} : u2 (h4 M s a b v) 4 0 x = h4 M s a x v := by
  funext j i
  by_cases e2 : j = 2 <;> by_cases e3 : j = 3 <;> by_cases e4 : j = 4 <;> by_cases e5 : j = 5 <;> by_cases e : i = 0 <;> simp_all [h4, u2, va_up]
theorem h4_5 {M : rb_T} {s a b v x : Int32} : u2 (h4 M s a b v) 5 0 x = h4 M s a b x := by
  funext j i
  by_cases e2 : j = 2 <;> by_cases e3 : j = 3 <;> by_cases e4 : j = 4 <;> by_cases e5 : j = 5 <;> by_cases e : i = 0 <;> simp_all [h4, u2, va_up]
theorem h4_self {M : rb_T} : h4 M (M 2 0) (M 3 0) (M 4 0) (M 5 0) = M := by
  funext j i
  by_cases e2 : j = 2 <;> by_cases e3 : j = 3 <;> by_cases e4 : j = 4 <;> by_cases e5 : j = 5 <;> by_cases e : i = 0 <;> simp_all [h4, u2, va_up]
theorem p4_2 {g : rb_H} {M : rb_T} {s a b v x : Int32} : rb_u (rb_st g 3 (h4 M s a b v)) 3 2 0 x = rb_st g 3 (h4 M x a b v) := by rw [rb_u_st, h4_2]
theorem p4_3 {g : rb_H} {M : rb_T} {s a b v x : Int32} : rb_u (rb_st g 3 (h4 M s a b v)) 3 3 0 x = rb_st g 3 (h4 M s x b v) := by rw [rb_u_st, h4_3]
theorem p4_4 {g : rb_H} {M : rb_T} {s a b v x : Int32} : rb_u (rb_st g 3 (h4 M s a b v)) 3 4 0 x = rb_st g 3 (h4 M s a x v) := by rw [rb_u_st, h4_4]
theorem p4_5 {g : rb_H} {M : rb_T} {s a b v x : Int32} : rb_u (rb_st g 3 (h4 M s a b v)) 3 5 0 x = rb_st g 3 (h4 M s a b x) := by rw [rb_u_st, h4_5]
/-- in hand: what begins at a -/
def hd (M : rb_T) (n a : Nat) : rb_T := h4 M (tS (M 0) n a) (nI a) (nI (tE (M 0) n a)) (tV (M 0) n a)
theorem p4_4i {g : rb_H} {M : rb_T} {s a v : Int32} {p : Nat} : rb_u (rb_st g 3 (h4 M s a (nI p) v)) 3 4 0 (nI p + 1) = rb_st g 3 (h4 M s a (nI (p + 1)) v) := by rw [p4_4, show nI p + 1 = nI (p + 1) from nI_1 p]
theorem tS_lt {f : Nat → Int32} {n a : Nat} (h : a < n) : tS f n a = ts1 (f a) := if_pos h
theorem hd_end {M : rb_T} {n a : Nat} (h : ¬ a < n) : h4 M 0 (nI a) (nI a) 0 = hd M n a := by
  unfold hd
  rw [show tS (M 0) n a = 0 from if_neg h, show tE (M 0) n a = a from if_neg h, show tV (M 0) n a = 0 by unfold tV; rw [if_neg]; rw [show tS (M 0) n a = 0 from if_neg h]; decide]
theorem g4_2 {g : rb_H} {M : rb_T} {s a b v : Int32} : (rb_st g 3 (h4 M s a b v)).1 3 2 0 = s := rfl
theorem g4_3 {g : rb_H} {M : rb_T} {s a b v : Int32} : (rb_st g 3 (h4 M s a b v)).1 3 3 0 = a := rfl
theorem g4_4 {g : rb_H} {M : rb_T} {s a b v : Int32} : (rb_st g 3 (h4 M s a b v)).1 3 4 0 = b := rfl
theorem g4_5 {g : rb_H} {M : rb_T} {s a b v : Int32} : (rb_st g 3 (h4 M s a b v)).1 3 5 0 = v := rfl
theorem g4_0 {g : rb_H} {M : rb_T} {s a b v : Int32} : (rb_st g 3 (h4 M s a b v)).1 3 0 = M 0 := rfl
theorem g4_1 {g : rb_H} {M : rb_T} {s a b v x : Int32} (h : M 1 0 = x) : (rb_st g 3 (h4 M s a b v)).1 3 1 0 = x := h
theorem d4_2 {g : rb_H} {M : rb_T} {n a : Nat} : (rb_st g 3 (hd M n a)).1 3 2 0 = tS (M 0) n a := rfl
theorem d4_3 {g : rb_H} {M : rb_T} {n a : Nat} : (rb_st g 3 (hd M n a)).1 3 3 0 = nI a := rfl
theorem d4_4 {g : rb_H} {M : rb_T} {n a : Nat} : (rb_st g 3 (hd M n a)).1 3 4 0 = nI (tE (M 0) n a) := rfl
theorem d4_5 {g : rb_H} {M : rb_T} {n a : Nat} : (rb_st g 3 (hd M n a)).1 3 5 0 = tV (M 0) n a := rfl
theorem d4_0 {g : rb_H} {M : rb_T} {n a : Nat} : (rb_st g 3 (hd M n a)).1 3 0 = M 0 := rfl
