/-! ===== Int32 by its bits: bt x i ===== -/
def bt (x : Int32) (i : Nat) : Bool := x.toBitVec.getLsbD i
theorem b_ext {x y : Int32} (h : ∀ i, i < 32 → bt x i = bt y i) : x = y := Int32.toBitVec_inj.mp (BitVec.eq_of_getLsbD_eq (fun i hi => h i hi))
theorem b_or (x y : Int32) (i : Nat) : bt (x ||| y) i = (bt x i || bt y i) := by unfold bt; rw [Int32.toBitVec_or, BitVec.getLsbD_or]
theorem b_and (x y : Int32) (i : Nat) : bt (x &&& y) i = (bt x i && bt y i) := by unfold bt; rw [Int32.toBitVec_and, BitVec.getLsbD_and]
theorem b_xor (x y : Int32) (i : Nat) : bt (x ^^^ y) i = (bt x i ^^ bt y i) := by unfold bt; rw [Int32.toBitVec_xor, BitVec.getLsbD_xor]
theorem b_big {x : Int32} {i : Nat} (h : 32 ≤ i) : bt x i = false := BitVec.getLsbD_of_ge _ _ h
theorem b_255 (i : Nat) : bt 255 i = decide (i < 8) := by
  rcases Nat.lt_or_ge i 32 with h | h
  · exact (by decide +kernel : ∀ i, i < 32 → bt 255 i = decide (i < 8)) i h
  · rw [b_big h, decide_eq_false (by omega)]
theorem b_65535 (i : Nat) : bt 65535 i = decide (i < 16) := by
  rcases Nat.lt_or_ge i 32 with h | h
  · exact (by decide +kernel : ∀ i, i < 32 → bt 65535 i = decide (i < 16)) i h
  · rw [b_big h, decide_eq_false (by omega)]
theorem b_m1 : ∀ i, i < 32 → bt (-1) i = true := by decide +kernel
theorem b_0 (i : Nat) : bt 0 i = false := BitVec.getLsbD_zero
theorem s_l : ∀ n, n < 32 → ((nI n &&& 31).toBitVec.smod 32).toNat = n := by decide +kernel
theorem s_u : ∀ n, n < 32 → (((nI n).toUInt32 &&& Int32.toUInt32 31).toBitVec % 32).toNat = n := by decide +kernel
theorem b_shl (n : Nat) (hn : n < 32) (x : Int32) {i : Nat} (hi : i < 32) : bt (x <<< (nI n &&& 31)) i = (decide (n ≤ i) && bt x (i - n)) := by
  unfold bt
  rw [Int32.toBitVec_shiftLeft]
  show (x.toBitVec <<< ((nI n &&& 31).toBitVec.smod 32).toNat).getLsbD i = _
  rw [s_l n hn, BitVec.getLsbD_shiftLeft]
  rcases Nat.lt_or_ge i n with h | h
  · simp [h, Nat.not_le.mpr h]
  · simp [hi, h, Nat.not_lt.mpr h]
theorem b_ushr (n : Nat) (hn : n < 32) (x : Int32) (i : Nat) : bt ((x.toUInt32 >>> ((nI n).toUInt32 &&& Int32.toUInt32 31)).toInt32) i = bt x (n + i) := by
  show (x.toUInt32 >>> ((nI n).toUInt32 &&& Int32.toUInt32 31)).toBitVec.getLsbD i = x.toUInt32.toBitVec.getLsbD (n + i)
  rw [UInt32.toBitVec_shiftRight]
  show (x.toUInt32.toBitVec >>> (((nI n).toUInt32 &&& Int32.toUInt32 31).toBitVec % 32).toNat).getLsbD i = _
  rw [s_u n hn, BitVec.getLsbD_ushiftRight]
theorem b_sshr (n : Nat) (hn : n < 32) (x : Int32) {i : Nat} (hi : i < 32) : bt (x >>> (nI n &&& 31)) i = if n + i < 32 then bt x (n + i) else bt x 31 := by
  unfold bt
  rw [Int32.toBitVec_shiftRight]
  show (x.toBitVec.sshiftRight ((nI n &&& 31).toBitVec.smod 32).toNat).getLsbD i = _
  rw [s_l n hn, BitVec.getLsbD_sshiftRight, BitVec.msb_eq_getLsbD_last]
  simp [hi]
theorem b_shl8 (x : Int32) {i : Nat} (hi : i < 32) : bt (x <<< ((8 : Int32) &&& 31)) i = (decide (8 ≤ i) && bt x (i - 8)) := b_shl 8 (by omega) x hi
theorem b_shl16 (x : Int32) {i : Nat} (hi : i < 32) : bt (x <<< ((16 : Int32) &&& 31)) i = (decide (16 ≤ i) && bt x (i - 16)) := b_shl 16 (by omega) x hi
theorem b_shl24 (x : Int32) {i : Nat} (hi : i < 32) : bt (x <<< ((24 : Int32) &&& 31)) i = (decide (24 ≤ i) && bt x (i - 24)) := b_shl 24 (by omega) x hi
theorem b_sshr8 (x : Int32) {i : Nat} (hi : i < 32) : bt (x >>> ((8 : Int32) &&& 31)) i = if 8 + i < 32 then bt x (8 + i) else bt x 31 := b_sshr 8 (by omega) x hi
theorem sp_bit : ∀ m, m < 32 → ∀ e, e < 32 → bt ((1 : Int32) <<< (nI m &&& 31)) e = decide (e = m) := by decide +kernel
theorem sp_bitz {x : Int32} {m : Nat} (hm : m < 32) : (x &&& ((1 : Int32) <<< (nI m &&& 31)) = 0) ↔ bt x m = false := by
  constructor
  · intro h
    have h1 := congrArg (fun z => bt z m) h
    simp only [b_and, b_0, sp_bit m hm m hm, decide_true, Bool.and_true] at h1
    exact h1
  · intro h
    apply b_ext
    intro i hi
    rw [b_and, b_0, sp_bit m hm i hi]
    by_cases e : i = m
    · subst e; simp [h]
    · simp [e]
theorem sp_bt1 : ∀ i, i < 32 → bt 1 i = decide (i = 0) := by decide +kernel
theorem sp_shr1 {x : Int32} {m : Nat} (hm : m < 32) : ((x >>> (nI m &&& 31)) &&& 1 = 1) ↔ bt x m = true := by
  have e0 : bt ((x >>> (nI m &&& 31)) &&& 1) 0 = bt x m := by
    rw [b_and, b_sshr m hm x (by omega), sp_bt1 0 (by omega)]
    simp [hm]
  constructor
  · intro h
    rw [← e0, h]
    decide
  · intro h
    apply b_ext
    intro i hi
    by_cases hi0 : i = 0
    · subst hi0; rw [e0, h]; decide
    · rw [b_and, sp_bt1 i hi]; simp [hi0]
theorem sp_trB {T : rb_T} {e : Nat} (he : e < 32) : sp_tr T (nI e) ↔ bt (T 11 0) e = true := by
  unfold sp_tr
  rw [sp_bitz he]
  cases bt (T 11 0) e <;> simp
/-! pairs in a house, by masks -/
theorem sp_pc_s {T : rb_T} {q e i : Nat} : sp_pc T q e (i + 1) = sp_pc T q e i + (if T 9 i = nI q ∧ T 6 i = nI e then 1 else 0) := by
  unfold sp_pc
  rw [fb_ct_succ]
  by_cases h1 : T 9 i = nI q <;> by_cases h2 : T 6 i = nI e <;> simp [h1, h2]
def sp_mk (T : rb_T) (q : Nat) (on tw2 : Int32) (i : Nat) : Prop := ∀ e, e < 16 → bt on e = decide (1 ≤ sp_pc T q e i) ∧ bt tw2 e = decide (2 ≤ sp_pc T q e i)
theorem sp_mk0 {T : rb_T} {q : Nat} : sp_mk T q 0 0 0 := fun e _ => by simp [b_0, sp_pc, fb_ct]
theorem sp_mk_no {T : rb_T} {q i : Nat} {on tw2 : Int32} (h : sp_mk T q on tw2 i) (hc : ¬ T 9 i = nI q) : sp_mk T q on tw2 (i + 1) := fun e he => by
  rw [sp_pc_s, if_neg (fun z => hc z.1)]; exact h e he
theorem sp_mk_yes {T : rb_T} {q i m : Nat} {on tw2 : Int32} (h : sp_mk T q on tw2 i) (hc : T 9 i = nI q) (hm : m < 16) (h6 : T 6 i = nI m) : sp_mk T q (on ||| ((1 : Int32) <<< (T 6 i &&& 31))) (tw2 ||| (on &&& ((1 : Int32) <<< (T 6 i &&& 31)))) (i + 1) := fun e he => by
  obtain ⟨h1, h2⟩ := h e he
  rw [h6, b_or, b_or, b_and, sp_bit m (by omega) e (by omega), h1, h2, sp_pc_s, hc, h6]
  have : (nI m = nI e) ↔ m = e := nI_eq (by omega) (by omega)
  by_cases hme : e = m
  · subst hme
    simp
    rcases Nat.lt_or_ge (sp_pc T q e i) 1 with z | z
    · have : sp_pc T q e i = 0 := by omega
      simp [this]
    · have a1 : 2 ≤ sp_pc T q e i + 1 := by omega
      simp [z, a1]
  · simp [hme, this, Ne.symm hme]
theorem sp_bitT {x : Int32} {m : Nat} (hm : m < 32) : (¬ x &&& ((1 : Int32) <<< (nI m &&& 31)) = 0) ↔ bt x m = true := by rw [sp_bitz hm]; simp
/-- a house with fewer than two lodgers has no pair -/
theorem sp_pc_cnt {T : rb_T} {q e : Nat} : sp_pc T q e (sp_n T) ≤ sp_cnt T q := fb_ct_sub (fun k _ h => by simp at h ⊢; exact h.1)
theorem sp_cn_lt2 {T : rb_T} {q : Nat} (hq : q < 8) (hn : sp_n T ≤ 10) (h : sp_cn T q < 2) : sp_thd T q = T := by
  have h1 : sp_cnt T q < 2 := by
    unfold sp_cn at h
    simp only [hq, if_true] at h
    have hle : sp_cnt T q ≤ sp_n T := fb_ct_le _ _
    exact (nI_ltI (b := 2) (by omega) (by omega)).mp h
  have h2 : sp_pair T q = 16 := fa_first_none (fun c _ => by
    have := sp_pc_cnt (T := T) (q := q) (e := c)
    simp; omega)
  unfold sp_thd
  rw [if_pos (Or.inl h2)]
