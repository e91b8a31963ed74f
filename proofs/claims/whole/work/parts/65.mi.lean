/-! the model's heap is σ -/
def MI (σ : Sg) (h : rb_H) : Prop := h.1 9 0 = enc (sT σ) ∧ (sQ σ = 1 → h.1 9 1 = enc (sK σ)) ∧ h.1 9 5 0 = sQ σ ∧ h.1 9 4 = sF σ ∧ h.1 9 6 = sB σ ∧ h.1 9 7 0 = nI (sL σ) ∧ ∀ s, s < 4 → h.1 9 12 s = sW σ s ∧ h.1 9 13 s = nI (sZ σ s) ∧ ∀ k, k < 40 → h.2 9 14 (40 * s + k) = sU σ s k
/-- all but the model is as it was -/
def rb_ot (h h' : rb_H) : Prop := ∀ o, o ≠ 9 → h'.1 o = h.1 o ∧ h'.2 o = h.2 o
theorem ot_rf {h : rb_H} : rb_ot h h := fun _ _ => ⟨rfl, rfl⟩
theorem ot_r {h g : rb_H} {j : Nat} {f : Nat → Int32} (z : rb_ot h g) : rb_ot h (rb_row g 9 j f) := fun o ho => ⟨(rb_row_o ho).trans (z o ho).1, (z o ho).2⟩
theorem ot_l {h g : rb_H} {j : Nat} {f : Nat → Int32} (z : rb_ot h g) : rb_ot (rb_row h 9 j f) g := fun o ho => ⟨(z o ho).1.trans (rb_row_o ho).symm, (z o ho).2⟩
theorem ot_u {h g : rb_H} {j i : Nat} {v : Int32} (z : rb_ot h g) : rb_ot h (rb_u g 9 j i v) := by rw [rb_u_row]; exact ot_r z
theorem ot_rl {h g : rb_H} {j : Nat} {f : Nat → Int64} (z : rb_ot h g) : rb_ot h (rb_rowl g 9 j f) := fun o ho => ⟨(z o ho).1, (rb_rowl_o ho).trans (z o ho).2⟩
theorem ot_ul {h g : rb_H} {j i : Nat} {v : Int64} (z : rb_ot h g) : rb_ot h (rb_ul g 9 j i v) := by rw [rb_ul_row]; exact ot_rl z
theorem ot_tr {h g k : rb_H} (z : rb_ot h g) (w : rb_ot g k) : rb_ot h k := fun o ho => ⟨(w o ho).1.trans (z o ho).1, (w o ho).2.trans (z o ho).2⟩
def PM (h : rb_H) (p : Int32 × Sg) : Option Value → rb_H → Prop := fun r h' => r = some (.int p.1) ∧ MI p.2 h' ∧ rb_ot h h'
def PMl (h : rb_H) (p : Int64 × Sg) : Option Value → rb_H → Prop := fun r h' => r = some (.long p.1) ∧ MI p.2 h' ∧ rb_ot h h'
/-- a row that no promise tells of -/
def frj (j : Nat) : Prop := j ≠ 0 ∧ j ≠ 1 ∧ j ≠ 4 ∧ j ≠ 5 ∧ j ≠ 6 ∧ j ≠ 7 ∧ j ≠ 12 ∧ j ≠ 13
theorem MI_r {σ : Sg} {h : rb_H} {j : Nat} {f : Nat → Int32} (hj : frj j) (hM : MI σ h) : MI σ (rb_row h 9 j f) := by
  obtain ⟨a0, a1, a4, a5, a6, a7, a12, a13⟩ := hj
  have key : ∀ q, q ≠ j → (rb_row h 9 j f).1 9 q = h.1 9 q := fun q hq => rb_row_ne (fun z => hq z.2)
  refine ⟨by rw [key 0 (Ne.symm a0)]; exact hM.1, by rw [key 1 (Ne.symm a1)]; exact hM.2.1, by rw [key 5 (Ne.symm a5)]; exact hM.2.2.1, by rw [key 4 (Ne.symm a4)]; exact hM.2.2.2.1, by rw [key 6 (Ne.symm a6)]; exact hM.2.2.2.2.1, by rw [key 7 (Ne.symm a7)]; exact hM.2.2.2.2.2.1, ?_⟩
  rw [key 12 (Ne.symm a12), key 13 (Ne.symm a13)]
  exact hM.2.2.2.2.2.2
theorem MI_u {σ : Sg} {h : rb_H} {j i : Nat} {v : Int32} (hj : frj j) (hM : MI σ h) : MI σ (rb_u h 9 j i v) := by rw [rb_u_row]; exact MI_r hj hM
theorem frj_2 : frj 2 := ⟨by decide, by decide, by decide, by decide, by decide, by decide, by decide, by decide⟩
theorem frj_3 : frj 3 := ⟨by decide, by decide, by decide, by decide, by decide, by decide, by decide, by decide⟩
theorem frj_8 : frj 8 := ⟨by decide, by decide, by decide, by decide, by decide, by decide, by decide, by decide⟩
theorem frj_9 : frj 9 := ⟨by decide, by decide, by decide, by decide, by decide, by decide, by decide, by decide⟩
theorem frj_10 : frj 10 := ⟨by decide, by decide, by decide, by decide, by decide, by decide, by decide, by decide⟩
theorem frj_11 : frj 11 := ⟨by decide, by decide, by decide, by decide, by decide, by decide, by decide, by decide⟩
theorem MI_T {σ : Sg} {h : rb_H} (hM : MI σ h) (T' : rb_T) : MI (wT σ T') (ms h T') := by
  have key : ∀ q, q ≠ 0 → (ms h T').1 9 q = h.1 9 q := fun q hq => ms_ne hq
  refine ⟨ms_at, by rw [key 1 (by decide)]; exact hM.2.1, by rw [key 5 (by decide)]; exact hM.2.2.1, by rw [key 4 (by decide)]; exact hM.2.2.2.1, by rw [key 6 (by decide)]; exact hM.2.2.2.2.1, by rw [key 7 (by decide)]; exact hM.2.2.2.2.2.1, ?_⟩
  rw [key 12 (by decide), key 13 (by decide)]
  exact hM.2.2.2.2.2.2
theorem MI_f {σ : Sg} {h : rb_H} (hM : MI σ h) (i : Nat) : MI (fnd σ i) (rb_u h 9 4 i (h.1 9 4 i + 1)) := by
  have key : ∀ q, q ≠ 4 → (rb_row h 9 4 (va_up (h.1 9 4) i (h.1 9 4 i + 1))).1 9 q = h.1 9 q := fun q hq => rb_row_ne (fun z => hq z.2)
  rw [rb_u_row]
  refine ⟨by rw [key 0 (by decide)]; exact hM.1, by rw [key 1 (by decide)]; exact hM.2.1, by rw [key 5 (by decide)]; exact hM.2.2.1, ?_, by rw [key 6 (by decide)]; exact hM.2.2.2.2.1, by rw [key 7 (by decide)]; exact hM.2.2.2.2.2.1, ?_⟩
  · rw [rb_row_same, hM.2.2.2.1]; rfl
  · rw [key 12 (by decide), key 13 (by decide)]
    exact hM.2.2.2.2.2.2
theorem pm_g {σ' : Sg} {h h' : rb_H} {p : Int32 × Sg} {v : Int32} (hM : MI σ' h') (ho : rb_ot h h') (e : p = (v, σ')) : PM h p (some (.int v)) h' := by subst e; exact ⟨rfl, hM, ho⟩
theorem pm_0 {σ : Sg} {h : rb_H} {p : Int32 × Sg} {v : Int32} (hM : MI σ h) (e : p = (v, σ)) : PM h p (some (.int v)) h := pm_g hM ot_rf e
theorem pm_f {σ : Sg} {h : rb_H} {p : Int32 × Sg} {w : Int32} {i : Nat} (hM : MI σ h) (e : p = (w, fnd σ i)) : PM h p (some (.int w)) (rb_u h 9 4 i (h.1 9 4 i + 1)) := pm_g (MI_f hM i) (ot_u ot_rf) e
theorem ms_ms {h : rb_H} {T T' : rb_T} : ms (ms h T) T' = ms h T' := rb_row_row
theorem pm_T {σ : Sg} {h : rb_H} {p : Int32 × Sg} {v : Int32} {T T' : rb_T} (hM : MI σ (ms h T)) (e : p = (v, wT σ T')) : PM (ms h T) p (some (.int v)) (ms h T') := by
  have z := MI_T hM T'
  rw [ms_ms] at z
  exact pm_g z (ot_l (ot_r ot_rf)) e
theorem MI_A {σ : Sg} {h : rb_H} {T : rb_T} {f : Nat → Int32} (hM : MI σ (ms h T)) : MI σ (ms (rb_row h 9 3 f) T) := by
  have z := MI_r (f := f) frj_3 hM
  rw [rb_row_sw (by decide)] at z
  exact z
theorem pm_A {σ : Sg} {h : rb_H} {p : Int32 × Sg} {v : Int32} {T : rb_T} {f : Nat → Int32} (hM : MI σ (ms h T)) (e : p = (v, σ)) : PM (ms h T) p (some (.int v)) (ms (rb_row h 9 3 f) T) := pm_g (MI_A hM) (ot_l (ot_r (ot_r ot_rf))) e
theorem pm_Af {σ : Sg} {h : rb_H} {p : Int32 × Sg} {w : Int32} {i : Nat} {T : rb_T} {f : Nat → Int32} (hM : MI σ (ms h T)) (e : p = (w, fnd σ i)) : PM (ms h T) p (some (.int w)) (rb_u (ms (rb_row h 9 3 f) T) 9 4 i ((ms (rb_row h 9 3 f) T).1 9 4 i + 1)) := pm_g (MI_f (MI_A hM) i) (ot_u (ot_l (ot_r (ot_r ot_rf)))) e
theorem w012 {w : Int32} (h0 : 0 ≤ w) (h1 : w ≤ 2) : ∃ q, q < 3 ∧ w = nI q := by
  obtain ⟨q, h2, h3⟩ := sp_rngL (n := 2) (by decide) h0 h1
  exact ⟨q, by omega, h3⟩
