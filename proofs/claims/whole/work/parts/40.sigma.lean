/-! what the object is: town, kept town, whether kept, findings, tape, its length, sheets' bits, sizes, numbers -/
abbrev Sg : Type := rb_T × rb_T × Int32 × (Nat → Int32) × (Nat → Int32) × Nat × (Nat → Int32) × (Nat → Nat) × (Nat → Nat → Int64)
def sT (σ : Sg) : rb_T := σ.1
def sK (σ : Sg) : rb_T := σ.2.1
def sQ (σ : Sg) : Int32 := σ.2.2.1
def sF (σ : Sg) : Nat → Int32 := σ.2.2.2.1
def sB (σ : Sg) : Nat → Int32 := σ.2.2.2.2.1
def sL (σ : Sg) : Nat := σ.2.2.2.2.2.1
def sW (σ : Sg) : Nat → Int32 := σ.2.2.2.2.2.2.1
def sZ (σ : Sg) : Nat → Nat := σ.2.2.2.2.2.2.2.1
def sU (σ : Sg) : Nat → Nat → Int64 := σ.2.2.2.2.2.2.2.2
def wT (σ : Sg) (T : rb_T) : Sg := (T, σ.2)
def wKQ (σ : Sg) (K : rb_T) (q : Int32) : Sg := (σ.1, K, q, σ.2.2.2)
def wF (σ : Sg) (f : Nat → Int32) : Sg := (σ.1, σ.2.1, σ.2.2.1, f, σ.2.2.2.2)
def wB (σ : Sg) (f : Nat → Int32) (n : Nat) : Sg := (σ.1, σ.2.1, σ.2.2.1, σ.2.2.2.1, f, n, σ.2.2.2.2.2.2)
def wS (σ : Sg) (b : Nat → Int32) (z : Nat → Nat) (u : Nat → Nat → Int64) : Sg := (σ.1, σ.2.1, σ.2.2.1, σ.2.2.2.1, σ.2.2.2.2.1, σ.2.2.2.2.2.1, b, z, u)
def fnd (σ : Sg) (i : Nat) : Sg := wF σ (va_up (sF σ) i (sF σ i + 1))
def okS (σ : Sg) : Prop := sp_ok (sT σ) ∧ (sQ σ = 1 → sp_ok (sK σ)) ∧ (sQ σ = 0 ∨ sQ σ = 1) ∧ sL σ ≤ 120 ∧ ∀ s, s < 4 → sZ σ s ≤ 40
/-- the class's heap is σ -/
def CI (σ : Sg) (h : rb_H) : Prop := h.1 0 = wl (sT σ) ∧ (sQ σ = 1 → h.1 2 = wl (sK σ)) ∧ h.1 8 3 0 = sQ σ ∧ h.1 8 6 = sF σ ∧ h.1 3 0 = sB σ ∧ h.1 3 1 0 = nI (sL σ) ∧ ∀ s, s < 4 → h.1 (4 + s) 0 0 = sW σ s ∧ h.1 (4 + s) 1 0 = nI (sZ σ s) ∧ h.2 (4 + s) 2 = sU σ s
def PC (h : rb_H) (p : Int32 × Sg) : Option Value → rb_H → Prop := fun r h' => r = some (.int p.1) ∧ CI p.2 h' ∧ h'.1 9 = h.1 9 ∧ h'.2 9 = h.2 9
def PCl (h : rb_H) (p : Int64 × Sg) : Option Value → rb_H → Prop := fun r h' => r = some (.long p.1) ∧ CI p.2 h' ∧ h'.1 9 = h.1 9 ∧ h'.2 9 = h.2 9
theorem CI_T {σ : Sg} {h : rb_H} {T : rb_T} (hC : CI σ h) (T' : rb_T) : CI (wT σ T') (rb_st h 0 (wl T')) := ⟨rfl, hC.2.1, hC.2.2.1, hC.2.2.2.1, hC.2.2.2.2.1, hC.2.2.2.2.2.1, fun s hs => by
  obtain ⟨a, b, c⟩ := hC.2.2.2.2.2.2 s hs
  exact ⟨by rw [rb_st_ne (by omega)]; exact a, by rw [rb_st_ne (by omega)]; exact b, c⟩⟩
theorem CI_A {σ : Sg} {h : rb_H} (hC : CI σ h) (M : rb_T) : CI σ (rb_st h 1 M) := ⟨hC.1, hC.2.1, hC.2.2.1, hC.2.2.2.1, hC.2.2.2.2.1, hC.2.2.2.2.2.1, fun s hs => by
  obtain ⟨a, b, c⟩ := hC.2.2.2.2.2.2 s hs
  exact ⟨by rw [rb_st_ne (by omega)]; exact a, by rw [rb_st_ne (by omega)]; exact b, c⟩⟩
theorem rb_row_o {h : rb_H} {o j o' : Nat} {f : Nat → Int32} (hn : o' ≠ o) : (rb_row h o j f).1 o' = h.1 o' := by simp [rb_row, va_up, hn]
theorem CI_f {σ : Sg} {h : rb_H} (hC : CI σ h) (i : Nat) : CI (fnd σ i) (rb_u h 8 6 i (h.1 8 6 i + 1)) := by
  have h6 := hC.2.2.2.1
  refine ⟨hC.1, hC.2.1, hC.2.2.1, ?_, hC.2.2.2.2.1, hC.2.2.2.2.2.1, fun s hs => ?_⟩
  · rw [rb_u_row, rb_row_same, h6]; rfl
  · obtain ⟨a, b, c⟩ := hC.2.2.2.2.2.2 s hs
    rw [rb_u_row]
    exact ⟨by rw [rb_row_o (by omega)]; exact a, by rw [rb_row_o (by omega)]; exact b, c⟩
theorem pc_0 {σ : Sg} {h : rb_H} {p : Int32 × Sg} {v : Int32} (hC : CI σ h) (e : p = (v, σ)) : PC h p (some (.int v)) h := by subst e; exact ⟨rfl, hC, rfl, rfl⟩
theorem pc_f {σ : Sg} {h : rb_H} {p : Int32 × Sg} {w : Int32} {i : Nat} (hC : CI σ h) (e : p = (w, fnd σ i)) : PC h p (some (.int w)) (rb_u h 8 6 i (h.1 8 6 i + 1)) := by subst e; exact ⟨rfl, CI_f hC i, rfl, rfl⟩
theorem pc_T {σ : Sg} {h : rb_H} {p : Int32 × Sg} {v : Int32} {T T' : rb_T} (hC : CI σ (tw h 0 T)) (e : p = (v, wT σ T')) : PC (tw h 0 T) p (some (.int v)) (tw h 0 T') := by
  subst e
  refine ⟨rfl, ?_, by rw [rb_st_ne (by decide), rb_st_ne (by decide)], rfl⟩
  have := CI_T (T := T) hC T'
  rw [rb_st_st] at this
  exact this
theorem pc_A {σ : Sg} {h : rb_H} {p : Int32 × Sg} {v : Int32} {M : rb_T} (hC : CI σ h) (e : p = (v, σ)) : PC h p (some (.int v)) (rb_st h 1 M) := by subst e; exact ⟨rfl, CI_A hC M, rfl, rfl⟩
theorem pc_Af {σ : Sg} {h : rb_H} {p : Int32 × Sg} {w : Int32} {i : Nat} {M : rb_T} (hC : CI σ h) (e : p = (w, fnd σ i)) : PC h p (some (.int w)) (rb_u (rb_st h 1 M) 8 6 i ((rb_st h 1 M).1 8 6 i + 1)) := by subst e; exact ⟨rfl, CI_f (CI_A hC M) i, rfl, rfl⟩
/-! what arguments may be -/
def iH (x : Int32) : Bool := decide (0 ≤ x ∧ x < 8)
def iN (x m : Int32) : Bool := decide (0 ≤ x ∧ x ≤ m)
def iK (x : Int32) : Bool := decide (0 ≤ x ∧ x < 6)
def iE (x : Int32) : Bool := decide (0 ≤ x ∧ x < 16)
def iS (x : Int32) : Bool := decide (0 ≤ x ∧ x < 4)
def iR (T : rb_T) (x : Int32) : Bool := decide (0 ≤ x ∧ x < T 4 0)
theorem sp_rng {x : Int32} {n : Nat} (hn : n < 2 ^ 31) (h0 : 0 ≤ x) (h1 : x < nI n) : ∃ q, q < n ∧ x = nI q := by
  have a := Int32.le_iff_toInt_le.mp h0
  have b := Int32.lt_iff_toInt_lt.mp h1
  rw [nI_toInt hn] at b
  have c0 : (0 : Int32).toInt = 0 := by decide
  rw [c0] at a
  refine ⟨x.toInt.toNat, by omega, ?_⟩
  apply Int32.toInt_inj.mp
  rw [nI_toInt (by omega)]
  omega
theorem sp_rngL {x : Int32} {n : Nat} (hn : n < 2 ^ 31) (h0 : 0 ≤ x) (h1 : x ≤ nI n) : ∃ q, q ≤ n ∧ x = nI q := by
  have a := Int32.le_iff_toInt_le.mp h0
  have b := Int32.le_iff_toInt_le.mp h1
  rw [nI_toInt hn] at b
  have c0 : (0 : Int32).toInt = 0 := by decide
  rw [c0] at a
  refine ⟨x.toInt.toNat, by omega, ?_⟩
  apply Int32.toInt_inj.mp
  rw [nI_toInt (by omega)]
  omega
theorem iH_of {x : Int32} (h : iH x = true) : ∃ q, q < 8 ∧ x = nI q := by simp only [iH, decide_eq_true_eq] at h; exact sp_rng (by omega) h.1 h.2
theorem iK_of {x : Int32} (h : iK x = true) : ∃ q, q < 6 ∧ x = nI q := by simp only [iK, decide_eq_true_eq] at h; exact sp_rng (by omega) h.1 h.2
theorem iE_of {x : Int32} (h : iE x = true) : ∃ q, q < 16 ∧ x = nI q := by simp only [iE, decide_eq_true_eq] at h; exact sp_rng (by omega) h.1 h.2
theorem iS_of {x : Int32} (h : iS x = true) : ∃ q, q < 4 ∧ x = nI q := by simp only [iS, decide_eq_true_eq] at h; exact sp_rng (by omega) h.1 h.2
theorem iN_of {x : Int32} {n : Nat} (hn : n < 2 ^ 31) (h : iN x (nI n) = true) : ∃ q, q ≤ n ∧ x = nI q := by simp only [iN, decide_eq_true_eq] at h; exact sp_rngL hn h.1 h.2
theorem iR_of {T : rb_T} (hok : sp_ok T) {x : Int32} (h : iR T x = true) : ∃ q, q < sp_n T ∧ x = nI q := by
  simp only [iR, decide_eq_true_eq] at h
  rw [hok.1] at h
  exact sp_rng (by have := hok.2.1; omega) h.1 h.2
abbrev ix (x : Int32) : Nat := x.toNatClampNeg
def ff (σ : Sg) (i : Nat) : Int32 × Sg := (-1000000001 - nI i, fnd σ i)
/-! the calls' answers, and what becomes -/
def r_house (σ : Sg) (a w v : Int32) : Int32 × Sg := if iH a && (decide (w = 0) && iN v 3 || decide (w = 1) && iN v 999 || decide (w = 2) && iN v 9) then (sT σ (ix w) (ix a), wT σ (u2 (sT σ) (ix w) (ix a) v)) else ff σ 0
def r_houseOf (σ : Sg) (a w : Int32) : Int32 × Sg := if iH a then (if w = 0 then (sT σ 0 (ix a), σ) else if w = 1 then (sT σ 1 (ix a), σ) else if w = 2 then (sT σ 2 (ix a), σ) else if w = 3 then (sp_those (sT σ) a (sp_n (sT σ)), σ) else if w = 4 then (sp_evs (sT σ) a (sp_n (sT σ)), σ) else if w = 5 then (sp_eat (sT σ) a (sp_n (sT σ)), σ) else ff σ 0) else ff σ 0
def r_rumour (σ : Sg) (k e : Int32) : Int32 × Sg := if iK k && iE e then (if (10 : Int32) ≤ sT σ 4 0 then ff σ 1 else (nI (sp_n (sT σ)), wT σ (sp_add (sT σ) k e 10))) else ff σ 0
def r_of (σ : Sg) (r w : Int32) : Int32 × Sg := if iR (sT σ) r then (if w = 0 then (sT σ 5 (ix r), σ) else if w = 1 then (sT σ 6 (ix r), σ) else if w = 2 then (sT σ 7 (ix r), σ) else if w = 3 then (sT σ 8 (ix r), σ) else if w = 4 then (sT σ 9 (ix r), σ) else if w = 5 then (sp_eR (sT σ) (ix r), σ) else if w = 6 then (sp_nR (sT σ) (ix r), σ) else if w = 7 then (sp_gR (sT σ) (ix r), σ) else ff σ 0) else ff σ 0
def r_set (σ : Sg) (r w v : Int32) : Int32 × Sg := if iR (sT σ) r && (decide (w = 1) && iN v 15 || decide (w = 2) && iN v 99 || decide (w = 3) && iN v 999) then (sT σ (5 + ix w) (ix r), wT σ (u2 (sT σ) (5 + ix w) (ix r) v)) else ff σ 0
def r_turn (σ : Sg) (r k : Int32) : Int32 × Sg := if iR (sT σ) r && iK k then (sT σ 5 (ix r), wT σ (u2 (sT σ) 5 (ix r) k)) else ff σ 0
def sp_und (k t : Int32) : Bool := decide (t = 0) || decide (k = t) || decide ((3 : Int32) < k) && decide (k - 3 = t)
def r_as (σ : Sg) (r k : Int32) : Int32 × Sg := if iR (sT σ) r && iK k then (if sp_und (sT σ 5 (ix r)) k then (sT σ 7 (ix r), σ) else ff σ 2) else ff σ 0
def r_takes (σ : Sg) (a r : Int32) : Int32 × Sg := if iH a && iR (sT σ) r then (if sp_tk (sT σ) (ix a) (sp_nR (sT σ) (ix r)) then 1 else 0, σ) else ff σ 0
def r_comeIn (σ : Sg) (r : Int32) : Int32 × Sg := if iR (sT σ) r then (if ¬ sT σ 9 (ix r) = -1 ∨ sp_tr (sT σ) (sT σ 6 (ix r)) then ff σ 4 else (sp_host (sT σ) (ix r), wT σ (u2 (sT σ) 9 (ix r) (sp_host (sT σ) (ix r))))) else ff σ 0
def iV (v : Int32) (m : Int32) : Bool := decide (1 ≤ v ∧ v ≤ m)
theorem iV_of {x : Int32} {n : Nat} (hn : n < 2 ^ 31) (h : iV x (nI n) = true) : ∃ q, 1 ≤ q ∧ q ≤ n ∧ x = nI q := by
  simp only [iV, decide_eq_true_eq] at h
  have h0 : (0 : Int32) ≤ x := Int32.le_trans (by decide) h.1
  obtain ⟨q, h1, h2⟩ := sp_rngL hn h0 h.2
  refine ⟨q, ?_, h1, h2⟩
  have h3 := h.1
  rw [h2] at h3
  exact (nI_leI (a := 1) (by omega) (by omega)).mp h3
def r_improve (σ : Sg) (r v : Int32) : Int32 × Sg := if iR (sT σ) r && iV v 20 then (if sT σ 9 (ix r) = -1 then ff σ 4 else (sp_imp (sT σ) (ix r) v 9 (ix r), wT σ (sp_imp (sT σ) (ix r) v))) else ff σ 0
def r_comesTrue (σ : Sg) (e : Int32) : Int32 × Sg := if iE e then (sp_btn (sT σ) e, wT σ (sp_bt (sT σ) e)) else ff σ 0
def r_forget (σ : Sg) (e : Int32) : Int32 × Sg := if iE e then (if sp_tr (sT σ) e then 1 else 0, wT σ (u2 (sT σ) 11 0 (sT σ 11 0 &&& (((1 : Int32) <<< (e &&& 31)) ^^^ -1)))) else ff σ 0
def r_days (σ : Sg) (n : Int32) : Int32 × Sg := if iV n 60 then (if (9999 : Int32) < sT σ 10 0 + n then ff σ 4 else (sp_days (sT σ) (ix n) 4 0, wT σ (sp_days (sT σ) (ix n)))) else ff σ 0
def r_now (σ : Sg) (w : Int32) : Int32 × Sg := if w = 0 then (sT σ 10 0, σ) else if w = 1 then (sT σ 11 0, σ) else if w = 2 then (sp_those (sT σ) (-1) (sp_n (sT σ)), σ) else if w = 3 then (sp_bulks (sT σ) (sp_n (sT σ)), σ) else if w = 4 then (sp_sum (sT σ 1) 8, σ) else if w = 5 then (sp_fb (sT σ) 8, σ) else if w = 6 then (sp_eatA (sT σ) 8, σ) else ff σ 0
def r_on (σ : Sg) (r n w : Int32) : Int32 × Sg := if iR (sT σ) r && iN n 60 && iN w 1 then (if w = 0 then sp_days (sT σ) (ix n) 9 (ix r) else sp_days (sT σ) (ix n) 7 (ix r), σ) else ff σ 0
def r_larder (σ : Sg) (a n : Int32) : Int32 × Sg := if iH a && iN n 60 then (sp_days (sT σ) (ix n) 1 (ix a), σ) else ff σ 0
def k_emp (T : rb_T) (q : Nat) : Nat := fa_first (fun n => decide (sp_days T n 1 q = 0)) 61
def k_out (T : rb_T) (r : Nat) : Nat := fa_first (fun n => decide (sp_days T n 9 r = -1)) 61
def r_empty (σ : Sg) (a : Int32) : Int32 × Sg := if iH a then (if k_emp (sT σ) (ix a) < 61 then (nI (k_emp (sT σ) (ix a)), σ) else ff σ 3) else ff σ 0
def r_many (σ : Sg) (n : Int32) : Int32 × Sg := if iN n 60 then (sp_days (sT σ) (ix n) 4 0, σ) else ff σ 0
def r_out (σ : Sg) (r : Int32) : Int32 × Sg := if iR (sT σ) r then (if k_out (sT σ) (ix r) < 61 then (nI (k_out (sT σ) (ix r)), σ) else ff σ 3) else ff σ 0
def sp_imps (T : rb_T) (r : Nat) : Nat → rb_T := sp_fold (fun _ T => sp_imp T r 1) T
def k_few (T : rb_T) (r : Nat) (a : Int32) : Nat := fa_first (fun n => decide (sp_imps T r n 9 r = a)) 41
def k_least (T : rb_T) (r : Nat) : Nat := fa_first (fun v => decide (¬ sp_imp T r (nI (v + 1)) 9 r = T 9 r)) 20
def r_fewest (σ : Sg) (r a : Int32) : Int32 × Sg := if iR (sT σ) r && iH a then (if sT σ 9 (ix r) = -1 then ff σ 4 else if k_few (sT σ) (ix r) a < 41 then (nI (k_few (sT σ) (ix r) a), σ) else ff σ 3) else ff σ 0
def r_least (σ : Sg) (r : Int32) : Int32 × Sg := if iR (sT σ) r then (if sT σ 9 (ix r) = -1 then ff σ 4 else if k_least (sT σ) (ix r) < 20 then (nI (k_least (sT σ) (ix r) + 1), σ) else ff σ 3) else ff σ 0
/-- the best of what is tried: place, value -/
def k_arg (f : Nat → Int32) : Nat → Int32 × Int32 := sp_fold (fun q a => if a.2 < f q then (nI q, f q) else a) (0, -1)
def r_best (σ : Sg) (n : Int32) : Int32 × Sg := if iN n 20 then ((k_arg (fun e => sp_sum (sp_days (sp_bt (sT σ) (nI e)) (ix n) 1) 8) 16).1, σ) else ff σ 0
def r_lean (σ : Sg) (a r : Int32) : Int32 × Sg := if iH a && iR (sT σ) r then (if sp_free (sT σ) (ix a) then (sp_nR (sT σ) (ix r), σ) else ff σ 3) else ff σ 0
def r_leanFor (σ : Sg) (a n : Int32) : Int32 × Sg := if iH a && iN n 20 then ((k_arg (fun v => sp_days (u2 (sT σ) 2 (ix a) (nI v)) (ix n) 1 (ix a)) 10).1, σ) else ff σ 0
def k_kind (b a : Int32) : Nat → Int32 := sp_fold (fun q k => if sp_eats (nI (q + 1)) b a < sp_eats k b a then nI (q + 1) else k) 0
def r_kind (σ : Sg) (r : Int32) : Int32 × Sg := if iR (sT σ) r then (k_kind (sT σ 7 (ix r)) (sT σ 8 (ix r)) 5, σ) else ff σ 0
def r_host (σ : Sg) (r : Int32) : Int32 × Sg := if iR (sT σ) r then (if sp_host (sT σ) (ix r) = -1 then ff σ 3 else (sp_host (sT σ) (ix r), σ)) else ff σ 0
def k_beds (T : rb_T) (q n : Nat) : Nat := fa_first (fun b => decide (sp_those (sp_days (u2 T 0 q (nI b)) n) (-1) (sp_n (sp_days (u2 T 0 q (nI b)) n)) = 0)) 4
def r_beds (σ : Sg) (a n : Int32) : Int32 × Sg := if iH a && iN n 20 then (if k_beds (sT σ) (ix a) (ix n) < 4 then (nI (k_beds (sT σ) (ix a) (ix n)), σ) else ff σ 3) else ff σ 0
