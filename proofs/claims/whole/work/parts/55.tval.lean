/-! the numbers of a tape -/
theorem sk_all {P : Nat → Bool} {n : Nat} : ∀ m p k, p ≤ k → k < sk P n m p → P k = true
  | 0, p, k, h1, h2 => by rw [sk] at h2; omega
  | m + 1, p, k, h1, h2 => by
    rw [sk] at h2
    split at h2
    · rename_i z
      by_cases e : k = p
      · rw [e]; exact z.2
      · exact sk_all m (p + 1) k (by omega) h2
    · omega
theorem tE_all {f : Nat → Int32} {n a : Nat} (h : tS f n a = 2) : ∀ k, a ≤ k → k < tE f n a → ts1 (f k) = 2 := by
  intro k h1 h2
  unfold tS at h
  split at h
  · rename_i ha
    unfold tE at h2
    rw [if_pos ha, if_pos (Or.inr h)] at h2
    by_cases e : k = a
    · rw [e]; exact h
    · have z := sk_all (P := fun k => decide (ts1 (f k) = ts1 (f a))) (n := n) (n - (a + 1)) (a + 1) k (by omega) h2
      rw [of_decide_eq_true z, h]
  · exact absurd h (by decide)
theorem ts1_2 {b : Int32} (h : ts1 b = 2) : ∃ d, 48 ≤ d ∧ d ≤ 57 ∧ b = nI d := by
  unfold ts1 at h
  by_cases h1 : 97 ≤ b ∧ b ≤ 122
  · rw [if_pos h1] at h; exact absurd h (by decide)
  · rw [if_neg h1] at h
    by_cases h2 : 48 ≤ b ∧ b ≤ 57
    · obtain ⟨d, hd, rfl⟩ := sp_rngL (n := 57) (by omega) (Int32.le_trans (by decide) h2.1) h2.2
      exact ⟨d, (nI_leI (a := 48) (by omega) (by omega)).mp h2.1, hd, rfl⟩
    · rw [if_neg h2] at h
      by_cases h3 : b = 59
      · rw [if_pos h3] at h; exact absurd h (by decide)
      · rw [if_neg h3] at h
        by_cases h4 : b = 32
        · rw [if_pos h4] at h; exact absurd h (by decide)
        · rw [if_neg h4] at h; exact absurd h (by decide)
theorem tVf_rng {f : Nat → Int32} {a : Nat} : ∀ m, (∀ k, k < m → ts1 (f (a + k)) = 2) → ∃ v, v ≤ 1000 ∧ tVf f a m = nI v
  | 0, _ => ⟨0, by omega, rfl⟩
  | m + 1, h => by
    obtain ⟨v, hv, e⟩ := tVf_rng m (fun k hk => h k (by omega))
    obtain ⟨d, h1, h2, e2⟩ := ts1_2 (h m (by omega))
    have e3 : 10 * tVf f a m + f (a + m) - 48 = nI (10 * v + d - 48) := by
      rw [e, e2]
      have z1 : (10 : Int32) * nI v = nI (10 * v) := (Int32.ofNat_mul 10 v).symm
      rw [z1, nI_add]
      exact pk_sub (b := 48) (by omega)
    rw [tVf, e3]
    by_cases hx : nI (10 * v + d - 48) < 1000
    · rw [if_pos hx]
      exact ⟨_, by have := (nI_ltI (b := 1000) (by omega) (by omega)).mp hx; omega, rfl⟩
    · rw [if_neg hx]; exact ⟨1000, by omega, rfl⟩
theorem tM_of {f : Nat → Int32} {n a m : Nat} (hm : m < 2 ^ 31) (h : tM f n a (nI m) = true) : ∃ v, v ≤ m ∧ tV f n a = nI v := by
  simp only [tM, decide_eq_true_eq] at h
  obtain ⟨hs, hle⟩ := h
  have ha : a ≤ tE f n a := by
    unfold tS at hs
    split at hs
    · rename_i z; exact Nat.le_of_lt (tE_lt z)
    · exact absurd hs (by decide)
  obtain ⟨v, hv, e⟩ := tVf_rng (f := f) (a := a) (tE f n a - a) (fun k hk => tE_all hs _ (by omega) (by omega))
  have e2 : tV f n a = nI v := by unfold tV; rw [if_pos hs, e]
  rw [e2] at hle
  exact ⟨v, (nI_leI (by omega) hm).mp hle, e2⟩
