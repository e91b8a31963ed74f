/-! what a tape tells: a town of a tape -/
def weq (f : Nat → Int32) (a i : Nat) : Nat → Bool
  | 0 => true
  | m + 1 => weq f a i m && decide (f (a + m) = rb_chr i m)
/-- word i is in hand -/
def tW (f : Nat → Int32) (n a i : Nat) : Bool := decide (tS f n a = 1) && (decide (tE f n a - a = rb_len.getD i 0) && weq f a i (rb_len.getD i 0))
/-- a number up to m is in hand -/
def tM (f : Nat → Int32) (n a : Nat) (m : Int32) : Bool := decide (tS f n a = 2 ∧ tV f n a ≤ m)
abbrev p_R : Type := Bool × Nat × rb_T
def p_part (f : Nat → Int32) (n i : Nat) (m : Int32) (j q a : Nat) (T : rb_T) : p_R := if tW f n a i then (if tM f n (tN f n a) m then (true, tN f n (tN f n a), u2 T j q (tV f n (tN f n a))) else (false, tN f n a, T)) else (true, a, T)
def p_lod (f : Nat → Int32) (n r a : Nat) (T : rb_T) : p_R := if tW f n a 13 then (if tM f n (tN f n a) 7 && sp_free T (ix (tV f n (tN f n a))) then (true, tN f n (tN f n a), u2 T 9 r (tV f n (tN f n a))) else (false, tN f n a, T)) else (true, a, T)
def p_true (f : Nat → Int32) (n b : Nat) (T : rb_T) : p_R := if tM f n b 15 then (true, tN f n b, sp_bt T (tV f n b)) else (false, b, T)
def p_th (p : p_R) (k : Nat → rb_T → p_R) : p_R := if p.1 then k p.2.1 p.2.2 else p
def p_house (f : Nat → Int32) (n b : Nat) (T : rb_T) : p_R := if tM f n b 7 then p_th (p_th (p_part f n 8 3 0 (ix (tV f n b)) (tN f n b) T) (p_part f n 9 999 1 (ix (tV f n b)))) (p_part f n 10 9 2 (ix (tV f n b))) else (false, b, T)
def p_rum2 (f : Nat → Int32) (n : Nat) (k : Int32) (c : Nat) (T : rb_T) : p_R := if tM f n c 15 then p_th (p_part f n 12 99 7 (sp_n T) (tN f n c) (sp_add T k (tV f n c) 10)) (p_lod f n (sp_n T)) else (false, c, T)
def p_rum (f : Nat → Int32) (n : Nat) (k : Int32) (a : Nat) (T : rb_T) : p_R := if (10 : Int32) ≤ T 4 0 then (false, a, T) else if tW f n (tN f n a) 11 then p_rum2 f n k (tN f n (tN f n a)) T else (false, tN f n a, T)
def p_kd (f : Nat → Int32) (n a : Nat) : Nat := fa_first (fun k => tW f n a k) 6
def p_item (f : Nat → Int32) (n a : Nat) (T : rb_T) : p_R := if tW f n a 6 then p_house f n (tN f n a) T else if tW f n a 7 then p_true f n (tN f n a) T else if p_kd f n a < 6 then p_rum f n (nI (p_kd f n a)) a T else (false, a, T)
def p_tell (f : Nat → Int32) (n : Nat) : Nat → Nat → Nat → rb_T → Int32 × rb_T
  | 0, _, a, T => (-1 - nI a, T)
  | m + 1, it, a, T => if (p_item f n a T).1 then (if tS f n (p_item f n a T).2.1 = 0 then (nI it, (p_item f n a T).2.2) else if tS f n (p_item f n a T).2.1 = 3 then p_tell f n m (it + 1) (tN f n (p_item f n a T).2.1) (p_item f n a T).2.2 else (-1 - nI (p_item f n a T).2.1, (p_item f n a T).2.2)) else (-1 - nI (p_item f n a T).2.1, (p_item f n a T).2.2)
def k_town (σ : Sg) : Int32 × rb_T := p_tell (sB σ) (sL σ) 120 1 (skp (tB (sB σ)) (sL σ) 0) (sT σ)
def r_town (σ : Sg) : Int32 × Sg := ((k_town σ).1, wB (if 0 < (k_town σ).1 then wT σ (k_town σ).2 else σ) (sB σ) 0)
