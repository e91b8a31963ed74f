/-! the model's reader: bytes -/
def tb (f : Nat → Int32) (n k : Nat) : Int32 := if k < n then f k else -1
theorem ts1_1 {b : Int32} : ts1 b = 1 ↔ (97 ≤ b ∧ b ≤ 122) := by
  unfold ts1
  by_cases h1 : 97 ≤ b ∧ b ≤ 122
  · rw [if_pos h1]; exact ⟨fun _ => h1, fun _ => rfl⟩
  · rw [if_neg h1]
    refine ⟨fun z => ?_, fun z => absurd z h1⟩
    exfalso
    revert z
    repeat' split
    all_goals decide
theorem ts1_2i {b : Int32} : ts1 b = 2 ↔ (48 ≤ b ∧ b ≤ 57) := by
  constructor
  · intro h
    obtain ⟨d, h1, h2, rfl⟩ := ts1_2 h
    exact ⟨(nI_leI (a := 48) (by omega) (by omega)).mpr h1, (nI_leI (b := 57) (by omega) (by omega)).mpr h2⟩
  · intro h
    unfold ts1
    rw [if_neg (fun z => absurd (Int32.le_trans z.1 h.2) (by decide)), if_pos h]
theorem ts1_3 {b : Int32} : ts1 b = 3 ↔ b = 59 := by
  constructor
  · intro h
    unfold ts1 at h
    by_cases h1 : 97 ≤ b ∧ b ≤ 122
    · rw [if_pos h1] at h; exact absurd h (by decide)
    · by_cases h2 : 48 ≤ b ∧ b ≤ 57
      · rw [if_neg h1, if_pos h2] at h; exact absurd h (by decide)
      · by_cases h3 : b = 59
        · exact h3
        · rw [if_neg h1, if_neg h2, if_neg h3] at h
          by_cases h4 : b = 32
          · rw [if_pos h4] at h; exact absurd h (by decide)
          · rw [if_neg h4] at h; exact absurd h (by decide)
  · rintro rfl; decide
theorem ts1_4 {b : Int32} : ts1 b = 4 ↔ b = 32 := by
  constructor
  · intro h
    unfold ts1 at h
    by_cases h1 : 97 ≤ b ∧ b ≤ 122
    · rw [if_pos h1] at h; exact absurd h (by decide)
    · by_cases h2 : 48 ≤ b ∧ b ≤ 57
      · rw [if_neg h1, if_pos h2] at h; exact absurd h (by decide)
      · by_cases h3 : b = 59
        · rw [if_neg h1, if_neg h2, if_pos h3] at h; exact absurd h (by decide)
        · rw [if_neg h1, if_neg h2, if_neg h3] at h
          by_cases h4 : b = 32
          · exact h4
          · rw [if_neg h4] at h; exact absurd h (by decide)
  · rintro rfl; decide
theorem ts1_0 {b : Int32} : ¬ ts1 b = 0 := by
  unfold ts1
  repeat' split
  all_goals decide
theorem tb_l {f : Nat → Int32} {n k : Nat} : (97 ≤ tb f n k ∧ tb f n k ≤ 122) ↔ tS f n k = 1 := by
  unfold tb tS
  by_cases h : k < n
  · rw [if_pos h, if_pos h, ts1_1]
  · rw [if_neg h, if_neg h]; decide
theorem tb_d {f : Nat → Int32} {n k : Nat} : (48 ≤ tb f n k ∧ tb f n k ≤ 57) ↔ tS f n k = 2 := by
  unfold tb tS
  by_cases h : k < n
  · rw [if_pos h, if_pos h, ts1_2i]
  · rw [if_neg h, if_neg h]; decide
theorem tb_s {f : Nat → Int32} {n k : Nat} : tb f n k = 59 ↔ tS f n k = 3 := by
  unfold tb tS
  by_cases h : k < n
  · rw [if_pos h, if_pos h, ts1_3]
  · rw [if_neg h, if_neg h]; decide
theorem tb_b {f : Nat → Int32} {n k : Nat} : tb f n k = 32 ↔ (k < n ∧ tB f k = true) := by
  unfold tb tB
  by_cases h : k < n
  · rw [if_pos h, decide_eq_true_eq, ts1_4]; exact ⟨fun z => ⟨h, z⟩, fun z => z.2⟩
  · rw [if_neg h]; exact ⟨fun z => absurd z (by decide), fun z => absurd z.1 h⟩
theorem tS_0 {f : Nat → Int32} {n k : Nat} : tS f n k = 0 ↔ ¬ k < n := by
  unfold tS
  by_cases h : k < n
  · rw [if_pos h]; exact ⟨fun z => absurd z ts1_0, fun z => absurd h z⟩
  · rw [if_neg h]; exact ⟨fun _ => h, fun _ => rfl⟩
/-! words as numbers to the base 32 -/
def hC : Nat := 36028797018963967
def hwR (f : Nat → Int32) (a : Nat) : Nat → Int64
  | 0 => 0
  | m + 1 => if (36028797018963967 : Int64) < hwR f a m then hwR f a m else 32 * hwR f a m + (f (a + m) - 96).toInt64
def hN (d : Nat → Nat) : Nat → Nat
  | 0 => 0
  | m + 1 => if hC < hN d m then hN d m else 32 * hN d m + d m
theorem hN_lt {d : Nat → Nat} (hd : ∀ k, d k ≤ 26) : ∀ m, hN d m ≤ 32 * hC + 26
  | 0 => Nat.zero_le _
  | m + 1 => by
    have ih := hN_lt hd m
    have h1 := hd m
    rw [hN]
    split
    · exact ih
    · omega
theorem hwR_N {f : Nat → Int32} {a : Nat} {d : Nat → Nat} (hd : ∀ k, d k ≤ 26) : ∀ m, (∀ k, k < m → f (a + k) = nI (96 + d k)) → hwR f a m = lN (hN d m)
  | 0, _ => rfl
  | m + 1, h => by
    have ih := hwR_N hd m (fun k hk => h k (by omega))
    have h1 := hd m
    have hb : hN d m < 2 ^ 63 := by have := hN_lt hd m; unfold hC at this; omega
    have e1 : (f (a + m) - 96).toInt64 = lN (d m) := by
      rw [h m (by omega), show nI (96 + d m) - 96 = nI (96 + d m - 96) from pk_sub (a := 96 + d m) (b := 96) (by omega), show 96 + d m - 96 = d m by omega]
      exact nI_l (by omega)
    rw [hwR, hN, ih, e1]
    have hc : ((36028797018963967 : Int64) < lN (hN d m)) ↔ hC < hN d m := pk_lLT (a := hC) (by unfold hC; omega) hb
    by_cases z : hC < hN d m
    · rw [if_pos z, if_pos (hc.mpr z)]
    · rw [if_neg z, if_neg (fun w => z (hc.mp w)), show (32 : Int64) = lN 32 from rfl, lN_mul, lN_add]
theorem hN_pos {d : Nat → Nat} {m : Nat} (h0 : ∀ k, k < m → 1 ≤ d k) (hm : m ≠ 0) : hN d m ≠ 0 := by
  cases m with
  | zero => exact absurd rfl hm
  | succ m =>
    have := h0 m (by omega)
    rw [hN]
    split
    · omega
    · omega
theorem hN_step {d : Nat → Nat} {m K e : Nat} (h1 : d m ≤ 26) (he : e ≤ 26) (hK : 32 * K + e ≤ hC) : hN d (m + 1) = 32 * K + e ↔ (hN d m = K ∧ d m = e) := by
  rw [hN]
  by_cases z : hC < hN d m
  · rw [if_pos z]; constructor
    · intro w; omega
    · intro w; omega
  · rw [if_neg z]; constructor
    · intro w; omega
    · intro w; rw [w.1, w.2]
/-- a word's letters as digits -/
def wd (i j : Nat) : Nat := (rb_chr i j).toNatClampNeg - 96
def kw (i : Nat) : Nat → Nat
  | 0 => 0
  | j + 1 => 32 * kw i j + wd i j
theorem wd_ok : ∀ i, i < 14 → ∀ j, j < rb_len.getD i 0 → (1 ≤ wd i j ∧ wd i j ≤ 26) ∧ rb_chr i j = nI (96 + wd i j) := by decide +kernel
theorem kw_ok : ∀ i, i < 14 → ∀ j, j < rb_len.getD i 0 + 1 → kw i j < 2 ^ 30 := by decide +kernel
theorem kw_inj : ∀ i, i < 14 → ∀ j, j < 14 → kw i (rb_len.getD i 0) = kw j (rb_len.getD j 0) → i = j := by decide +kernel
theorem hN_w {f : Nat → Int32} {a i m : Nat} {d : Nat → Nat} (hi : i < 14) (h1 : ∀ k, k < m → 1 ≤ d k) (h2 : ∀ k, d k ≤ 26) (hf : ∀ k, k < m → f (a + k) = nI (96 + d k)) : ∀ j, j ≤ rb_len.getD i 0 → ∀ m2, m2 ≤ m → (hN d m2 = kw i j ↔ (m2 = j ∧ weq f a i j = true))
  | 0, _, m2, hm => by
    constructor
    · intro z
      refine ⟨?_, rfl⟩
      by_cases e : m2 = 0
      · exact e
      · exact absurd z (hN_pos (fun k hk => h1 k (by omega)) e)
    · rintro ⟨rfl, -⟩; rfl
  | j + 1, hj, m2, hm => by
    obtain ⟨⟨w1, w2⟩, w3⟩ := wd_ok i hi j (by omega)
    have hk := kw_ok i hi (j + 1) (by omega)
    cases m2 with
    | zero =>
      constructor
      · intro z
        rw [kw] at z
        have : hN d 0 = 0 := rfl
        omega
      · rintro ⟨z, -⟩; omega
    | succ m3 =>
      have ih := hN_w hi h1 h2 hf j (by omega) m3 (by omega)
      rw [kw, hN_step (h2 m3) w2 (by rw [kw] at hk; unfold hC; omega), ih, weq_s, Bool.and_eq_true, decide_eq_true_eq]
      constructor
      · rintro ⟨⟨rfl, z⟩, e⟩
        exact ⟨rfl, z, by rw [hf m3 (by omega), e, w3]⟩
      · rintro ⟨e0, z, e⟩
        obtain rfl : m3 = j := by omega
        refine ⟨⟨rfl, z⟩, ?_⟩
        rw [hf m3 (by omega), w3] at e
        have h3 := h2 m3
        have := (nI_eq (a := 96 + d m3) (b := 96 + wd i m3) (by omega) (by omega)).mp e
        omega
theorem ts1_1n {b : Int32} (h : ts1 b = 1) : ∃ d, 1 ≤ d ∧ d ≤ 26 ∧ b = nI (96 + d) := by
  obtain ⟨h1, h2⟩ := ts1_1.mp h
  obtain ⟨v, hv, rfl⟩ := sp_rngL (n := 122) (by decide) (Int32.le_trans (by decide) h1) h2
  have := (nI_leI (a := 97) (by omega) (by omega)).mp h1
  exact ⟨v - 96, by omega, by omega, by rw [show 96 + (v - 96) = v by omega]⟩
theorem tE_all1 {f : Nat → Int32} {n a : Nat} (h : tS f n a = 1) : ∀ k, a ≤ k → k < tE f n a → ts1 (f k) = 1 := by
  intro k h1 h2
  unfold tS at h
  split at h
  · rename_i ha
    unfold tE at h2
    rw [if_pos ha, if_pos (Or.inl h)] at h2
    by_cases e : k = a
    · rw [e]; exact h
    · have z := sk_all (P := fun k => decide (ts1 (f k) = ts1 (f a))) (n := n) (n - (a + 1)) (a + 1) k (by omega) h2
      rw [of_decide_eq_true z, h]
  · exact absurd h (by decide)
/-- the word that stands here -/
def wH (f : Nat → Int32) (n a : Nat) : Int64 := if tS f n a = 1 then hwR f a (tE f n a - a) else 0
theorem wH_w {f : Nat → Int32} {n a i : Nat} (hi : i < 14) : wH f n a = lN (kw i (rb_len.getD i 0)) ↔ tW f n a i = true := by
  have hk0 : kw i (rb_len.getD i 0) < 2 ^ 30 := kw_ok i hi _ (by omega)
  have hkp : kw i (rb_len.getD i 0) ≠ 0 := (by decide +kernel : ∀ i, i < 14 → kw i (rb_len.getD i 0) ≠ 0) i hi
  unfold wH tW
  by_cases hs : tS f n a = 1
  · rw [if_pos hs, decide_eq_true hs]
    have hall := tE_all1 hs
    have hd : ∀ k, ∃ d : Nat, d ≤ 26 ∧ (k < tE f n a - a → 1 ≤ d ∧ f (a + k) = nI (96 + d)) := by
      intro k
      by_cases hk : k < tE f n a - a
      · obtain ⟨d, d1, d2, d3⟩ := ts1_1n (hall (a + k) (by omega) (by omega))
        exact ⟨d, d2, fun _ => ⟨d1, d3⟩⟩
      · exact ⟨0, by omega, fun z => absurd z hk⟩
    let d : Nat → Nat := fun k => Classical.choose (hd k)
    have d2 : ∀ k, d k ≤ 26 := fun k => (Classical.choose_spec (hd k)).1
    have d1 : ∀ k, k < tE f n a - a → 1 ≤ d k ∧ f (a + k) = nI (96 + d k) := fun k => (Classical.choose_spec (hd k)).2
    rw [hwR_N d2 _ (fun k hk => (d1 k hk).2)]
    have hb : hN d (tE f n a - a) < 2 ^ 63 := by have := hN_lt d2 (tE f n a - a); unfold hC at this; omega
    rw [pk_lEQ hb (by omega), hN_w (f := f) (a := a) hi (fun k hk => (d1 k hk).1) d2 (fun k hk => (d1 k hk).2) _ (Nat.le_refl _) _ (Nat.le_refl _)]
    simp
  · rw [if_neg hs, decide_eq_false hs]
    constructor
    · intro z
      have := (pk_lEQ (a := 0) (by omega) (by omega)).mp z
      exact absurd this.symm hkp
    · intro z; cases z
theorem tW_ex {f : Nat → Int32} {n a i j : Nat} (hi : i < 14) (hj : j < 14) (h1 : tW f n a i = true) (h2 : tW f n a j = true) : i = j := by
  have e1 := (wH_w hi).mpr h1
  have e2 := (wH_w hj).mpr h2
  have e3 := (pk_lEQ (by have := kw_ok i hi _ (Nat.lt_succ_self _); omega) (by have := kw_ok j hj _ (Nat.lt_succ_self _); omega)).mp (e1.symm.trans e2)
  exact kw_inj i hi j hj e3
/-! numbers -/
def nvR (f : Nat → Int32) (a : Nat) : Nat → Int32
  | 0 => 0
  | m + 1 => if 999 < nvR f a m then nvR f a m else 10 * nvR f a m + f (a + m) - 48
def nv (f : Nat → Int32) (n a : Nat) : Int32 := if tS f n a = 2 then nvR f a (tE f n a - a) else 0
theorem l999 {V : Nat} (h : V < 2 ^ 31) : (999 : Int32) < nI V ↔ 999 < V := nI_ltI (a := 999) (by omega) h
theorem l99 {V : Nat} (h : V < 2 ^ 31) : (99 : Int32) < nI V ↔ 99 < V := nI_ltI (a := 99) (by omega) h
theorem l1000 {V : Nat} (h : V < 2 ^ 31) : nI V < (1000 : Int32) ↔ V < 1000 := nI_ltI (b := 1000) h (by omega)
theorem nv_rel {f : Nat → Int32} {a : Nat} : ∀ m, (∀ k, k < m → ts1 (f (a + k)) = 2) → ∃ V, V < 20000 ∧ nvR f a m = nI V ∧ tVf f a m = nI (if V < 1000 then V else 1000)
  | 0, _ => ⟨0, by omega, rfl, rfl⟩
  | m + 1, h => by
    obtain ⟨V, hV, e1, e2⟩ := nv_rel m (fun k hk => h k (by omega))
    obtain ⟨d, h1, h2, e3⟩ := ts1_2 (h m (by omega))
    have step : ∀ W, 10 * nI W + f (a + m) - 48 = nI (10 * W + d - 48) := by
      intro W
      rw [e3, show (10 : Int32) * nI W = nI (10 * W) from (Int32.ofNat_mul 10 W).symm, nI_add]
      exact pk_sub (b := 48) (by omega)
    by_cases hv : V < 1000
    · refine ⟨10 * V + d - 48, by omega, ?_, ?_⟩
      · rw [nvR, e1, if_neg (fun z => absurd ((l999 (V := V) (by omega)).mp z) (by omega)), step]
      · rw [if_pos hv] at e2
        rw [tVf, e2, step]
        by_cases z : 10 * V + d - 48 < 1000
        · rw [if_pos ((l1000 (by omega)).mpr z), if_pos z]
        · rw [if_neg (fun w => z ((l1000 (by omega)).mp w)), if_neg z]; rfl
    · refine ⟨V, hV, ?_, ?_⟩
      · rw [nvR, e1, if_pos ((l999 (V := V) (by omega)).mpr (by omega))]
      · rw [if_neg hv] at e2
        rw [tVf, e2, step, if_neg (fun w => absurd ((l1000 (V := 10 * 1000 + d - 48) (by omega)).mp w) (by omega)), if_neg hv]; rfl
theorem nv_M {f : Nat → Int32} {n a m : Nat} (hm : m < 1000) : (tS f n a = 2 ∧ 0 ≤ nv f n a ∧ nv f n a ≤ nI m) ↔ tM f n a (nI m) = true := by
  unfold tM nv tV
  rw [decide_eq_true_eq]
  by_cases hs : tS f n a = 2
  · rw [if_pos hs, if_pos hs]
    have hall := tE_all hs
    obtain ⟨V, hV, e1, e2⟩ := nv_rel (f := f) (a := a) (tE f n a - a) (fun k hk => hall _ (by omega) (by omega))
    rw [e1, e2, nI_leI (by omega) (by omega), nI_leI (by split <;> omega) (by omega)]
    constructor
    · rintro ⟨-, -, z⟩; refine ⟨hs, ?_⟩; split <;> omega
    · rintro ⟨-, z⟩; refine ⟨hs, nI_pos' (by omega), ?_⟩; split at z <;> omega
  · exact ⟨fun z => absurd z.1 hs, fun z => absurd z.1 hs⟩
theorem nv_V {f : Nat → Int32} {n a m : Nat} (hm : m < 1000) (h : tM f n a (nI m) = true) : nv f n a = tV f n a := by
  obtain ⟨hs, -, hle⟩ := (nv_M hm).mpr h
  unfold nv tV at *
  rw [if_pos hs] at hle ⊢
  rw [if_pos hs]
  have hall := tE_all hs
  obtain ⟨V, hV, e1, e2⟩ := nv_rel (f := f) (a := a) (tE f n a - a) (fun k hk => hall _ (by omega) (by omega))
  rw [e1] at hle
  have := (nI_leI (by omega) (by omega)).mp hle
  rw [e1, e2, if_pos (by omega)]
/-- peeked -/
def pkR (f : Nat → Int32) (a : Nat) : Nat → Int32
  | 0 => 0
  | m + 1 => if 99 < pkR f a m then 1000 else 10 * pkR f a m + f (a + m) - 48
theorem pk_V {f : Nat → Int32} {a : Nat} : ∀ m, (∀ k, k < m → ts1 (f (a + k)) = 2) → ∃ V, V ≤ 1000 ∧ pkR f a m = nI V ∧ tVf f a m = nI V
  | 0, _ => ⟨0, by omega, rfl, rfl⟩
  | m + 1, h => by
    obtain ⟨V, hV, e1, e2⟩ := pk_V m (fun k hk => h k (by omega))
    obtain ⟨d, h1, h2, e3⟩ := ts1_2 (h m (by omega))
    have step : ∀ W, 10 * nI W + f (a + m) - 48 = nI (10 * W + d - 48) := by
      intro W
      rw [e3, show (10 : Int32) * nI W = nI (10 * W) from (Int32.ofNat_mul 10 W).symm, nI_add]
      exact pk_sub (b := 48) (by omega)
    by_cases hv : 99 < V
    · refine ⟨1000, by omega, ?_, ?_⟩
      · rw [pkR, e1, if_pos ((l99 (by omega)).mpr hv)]; rfl
      · rw [tVf, e2, step, if_neg (fun w => absurd ((l1000 (V := 10 * V + d - 48) (by omega)).mp w) (by omega))]; rfl
    · refine ⟨10 * V + d - 48, by omega, ?_, ?_⟩
      · rw [pkR, e1, if_neg (fun z => hv ((l99 (by omega)).mp z)), step]
      · rw [tVf, e2, step, if_pos ((l1000 (V := 10 * V + d - 48) (by omega)).mpr (by omega))]
theorem pk_e {f : Nat → Int32} {n a : Nat} (hs : tS f n a = 2) : pkR f a (tE f n a - a) = tV f n a := by
  have hall := tE_all hs
  obtain ⟨V, hV, e1, e2⟩ := pk_V (f := f) (a := a) (tE f n a - a) (fun k hk => hall _ (by omega) (by omega))
  unfold tV
  rw [if_pos hs, e1, e2]
theorem tV_nn {f : Nat → Int32} {n a : Nat} : 0 ≤ tV f n a := by
  unfold tV
  by_cases hs : tS f n a = 2
  · rw [if_pos hs]
    have hall := tE_all hs
    obtain ⟨V, hV, e1, e2⟩ := pk_V (f := f) (a := a) (tE f n a - a) (fun k hk => hall _ (by omega) (by omega))
    rw [e2]; exact nI_pos' (by omega)
  · rw [if_neg hs]; decide
/-! the model's hand -/
def h5 (M : rb_T) (a t v w : Int32) : rb_T := u2 (u2 (u2 (u2 M 8 0 a) 9 0 t) 10 0 v) 11 0 w
theorem h5_8 {M : rb_T} {a t v w x : Int32} : u2 (h5 M a t v w) 8 0 x = h5 M x t v w := by
  unfold h5; rw [u2_cm (j := 11) (by decide), u2_cm (j := 10) (by decide), u2_cm (j := 9) (by decide), u2_u2]
theorem h5_9 {M : rb_T} {a t v w x : Int32} : u2 (h5 M a t v w) 9 0 x = h5 M a x v w := by
  unfold h5; rw [u2_cm (j := 11) (by decide), u2_cm (j := 10) (by decide), u2_u2]
theorem h5_10 {M : rb_T} {a t v w x : Int32} : u2 (h5 M a t v w) 10 0 x = h5 M a t x w := by
  unfold h5; rw [u2_cm (j := 11) (by decide), u2_u2]
theorem h5_11 {M : rb_T} {a t v w x : Int32} : u2 (h5 M a t v w) 11 0 x = h5 M a t v x := by
  unfold h5; rw [u2_u2]
theorem h5_self {M : rb_T} : h5 M (M 8 0) (M 9 0) (M 10 0) (M 11 0) = M := by
  unfold h5
  rw [u2_self (T := M) rfl, u2_self (T := M) rfl, u2_self (T := M) rfl, u2_self (T := M) rfl]
abbrev mp (g : rb_H) (M : rb_T) (a t v w : Int32) (T : rb_T) : rb_H := ms (rb_st g 9 (h5 M a t v w)) T
theorem mp_u {g : rb_H} {N : rb_T} {T : rb_T} {j : Nat} {x : Int32} (hj : j ≠ 0) : rb_u (ms (rb_st g 9 N) T) 9 j 0 x = ms (rb_st g 9 (u2 N j 0 x)) T := by
  rw [rb_u_row, rb_row_ne (fun z => hj z.2), rb_row_sw (Ne.symm hj)]
  show ms (rb_row (rb_st g 9 N) 9 j _) T = _
  rw [rb_row_st, rb_st_at]
  rfl
section MP
variable {g : rb_H} {M T : rb_T} {a t v w x : Int32}
theorem mp_8 : rb_u (mp g M a t v w T) 9 8 0 x = mp g M x t v w T := by rw [mp_u (by decide), h5_8]
theorem mp_9 : rb_u (mp g M a t v w T) 9 9 0 x = mp g M a x v w T := by rw [mp_u (by decide), h5_9]
theorem mp_10 : rb_u (mp g M a t v w T) 9 10 0 x = mp g M a t x w T := by rw [mp_u (by decide), h5_10]
theorem mp_11 : rb_u (mp g M a t v w T) 9 11 0 x = mp g M a t v x T := by rw [mp_u (by decide), h5_11]
theorem gp_8 : (mp g M a t v w T).1 9 8 0 = a := rfl
theorem gp_9 : (mp g M a t v w T).1 9 9 0 = t := rfl
theorem gp_10 : (mp g M a t v w T).1 9 10 0 = v := rfl
theorem gp_11 : (mp g M a t v w T).1 9 11 0 = w := rfl
theorem gp_6 : (mp g M a t v w T).1 9 6 = M 6 := rfl
theorem gp_7 {y : Int32} (h : M 7 0 = y) : (mp g M a t v w T).1 9 7 0 = y := h
end MP
/-- at a token -/
abbrev mh (g : rb_H) (M : rb_T) (n a : Nat) (v w : Int32) (T : rb_T) : rb_H := mp g M (nI a) (nI (tE (M 6) n a)) v w T
