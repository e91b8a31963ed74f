/-! what the Statement gives of the start -/
def sv_fl : List Cond := flatC (Jvm.Cond.and given_1 narrow_1)
def sv_tm (i : Nat) : Term := Term.string (rb_tx i).1 (rb_tx i).2.1
theorem sv_s1 : ∀ i, i < 14 → Cond.exactly (sv_tm i) "java/lang/String" ∈ sv_fl ∧ Cond.eq (.field (sv_tm i) "java/lang/String" "coder" "B") (.int 0) ∈ sv_fl ∧ Cond.arrayOf (.field (sv_tm i) "java/lang/String" "value" "[B") .byte ∈ sv_fl ∧ Cond.eq (.length (.field (sv_tm i) "java/lang/String" "value" "[B")) (.int (Int32.ofNat (rb_len.getD i 0))) ∈ sv_fl := by decide +kernel
theorem sv_s2 : ∀ i, i < 14 → ∀ j, j < rb_len.getD i 0 → Cond.eq (.elem (.field (sv_tm i) "java/lang/String" "value" "[B") (.int (Int32.ofNat j))) (.int ((rb_byt.getD i []).getD j 0)) ∈ sv_fl := by decide +kernel
def sv_n : List (List Nat) := [[0, 162, 163, 164, 165, 166, 157, 161, 158, 159, 160, 183, 202, 220], [162, 0, 97, 110, 126, 143, 79, 83, 80, 81, 82, 178, 197, 215], [163, 97, 0, 111, 127, 144, 92, 96, 93, 94, 95, 179, 198, 216], [164, 110, 111, 0, 128, 145, 105, 109, 106, 107, 108, 180, 199, 217], [165, 126, 127, 128, 0, 146, 121, 125, 122, 123, 124, 181, 200, 218], [166, 143, 144, 145, 146, 0, 138, 142, 139, 140, 141, 182, 201, 219], [157, 79, 92, 105, 121, 138, 0, 68, 35, 46, 57, 173, 192, 210], [161, 83, 96, 109, 125, 142, 68, 0, 69, 70, 71, 177, 196, 214], [158, 80, 93, 106, 122, 139, 35, 69, 0, 47, 58, 174, 193, 211], [159, 81, 94, 107, 123, 140, 46, 70, 47, 0, 59, 175, 194, 212], [160, 82, 95, 108, 124, 141, 57, 71, 58, 59, 0, 176, 195, 213], [183, 178, 179, 180, 181, 182, 173, 177, 174, 175, 176, 0, 203, 221], [202, 197, 198, 199, 200, 201, 192, 196, 193, 194, 195, 203, 0, 222], [220, 215, 216, 217, 218, 219, 210, 214, 211, 212, 213, 221, 222, 0]]
theorem sv_s3_0 : ∀ j, j < 14 → 0 ≠ j → sv_fl[(sv_n.getD 0 []).getD j 0]? = some (Cond.not (Cond.eq (sv_tm 0) (sv_tm j))) ∨ sv_fl[(sv_n.getD 0 []).getD j 0]? = some (Cond.not (Cond.eq (sv_tm j) (sv_tm 0))) := by decide +kernel
theorem sv_s3_1 : ∀ j, j < 14 → 1 ≠ j → sv_fl[(sv_n.getD 1 []).getD j 0]? = some (Cond.not (Cond.eq (sv_tm 1) (sv_tm j))) ∨ sv_fl[(sv_n.getD 1 []).getD j 0]? = some (Cond.not (Cond.eq (sv_tm j) (sv_tm 1))) := by decide +kernel
theorem sv_s3_2 : ∀ j, j < 14 → 2 ≠ j → sv_fl[(sv_n.getD 2 []).getD j 0]? = some (Cond.not (Cond.eq (sv_tm 2) (sv_tm j))) ∨ sv_fl[(sv_n.getD 2 []).getD j 0]? = some (Cond.not (Cond.eq (sv_tm j) (sv_tm 2))) := by decide +kernel
theorem sv_s3_3 : ∀ j, j < 14 → 3 ≠ j → sv_fl[(sv_n.getD 3 []).getD j 0]? = some (Cond.not (Cond.eq (sv_tm 3) (sv_tm j))) ∨ sv_fl[(sv_n.getD 3 []).getD j 0]? = some (Cond.not (Cond.eq (sv_tm j) (sv_tm 3))) := by decide +kernel
theorem sv_s3_4 : ∀ j, j < 14 → 4 ≠ j → sv_fl[(sv_n.getD 4 []).getD j 0]? = some (Cond.not (Cond.eq (sv_tm 4) (sv_tm j))) ∨ sv_fl[(sv_n.getD 4 []).getD j 0]? = some (Cond.not (Cond.eq (sv_tm j) (sv_tm 4))) := by decide +kernel
theorem sv_s3_5 : ∀ j, j < 14 → 5 ≠ j → sv_fl[(sv_n.getD 5 []).getD j 0]? = some (Cond.not (Cond.eq (sv_tm 5) (sv_tm j))) ∨ sv_fl[(sv_n.getD 5 []).getD j 0]? = some (Cond.not (Cond.eq (sv_tm j) (sv_tm 5))) := by decide +kernel
theorem sv_s3_6 : ∀ j, j < 14 → 6 ≠ j → sv_fl[(sv_n.getD 6 []).getD j 0]? = some (Cond.not (Cond.eq (sv_tm 6) (sv_tm j))) ∨ sv_fl[(sv_n.getD 6 []).getD j 0]? = some (Cond.not (Cond.eq (sv_tm j) (sv_tm 6))) := by decide +kernel
theorem sv_s3_7 : ∀ j, j < 14 → 7 ≠ j → sv_fl[(sv_n.getD 7 []).getD j 0]? = some (Cond.not (Cond.eq (sv_tm 7) (sv_tm j))) ∨ sv_fl[(sv_n.getD 7 []).getD j 0]? = some (Cond.not (Cond.eq (sv_tm j) (sv_tm 7))) := by decide +kernel
theorem sv_s3_8 : ∀ j, j < 14 → 8 ≠ j → sv_fl[(sv_n.getD 8 []).getD j 0]? = some (Cond.not (Cond.eq (sv_tm 8) (sv_tm j))) ∨ sv_fl[(sv_n.getD 8 []).getD j 0]? = some (Cond.not (Cond.eq (sv_tm j) (sv_tm 8))) := by decide +kernel
theorem sv_s3_9 : ∀ j, j < 14 → 9 ≠ j → sv_fl[(sv_n.getD 9 []).getD j 0]? = some (Cond.not (Cond.eq (sv_tm 9) (sv_tm j))) ∨ sv_fl[(sv_n.getD 9 []).getD j 0]? = some (Cond.not (Cond.eq (sv_tm j) (sv_tm 9))) := by decide +kernel
theorem sv_s3_10 : ∀ j, j < 14 → 10 ≠ j → sv_fl[(sv_n.getD 10 []).getD j 0]? = some (Cond.not (Cond.eq (sv_tm 10) (sv_tm j))) ∨ sv_fl[(sv_n.getD 10 []).getD j 0]? = some (Cond.not (Cond.eq (sv_tm j) (sv_tm 10))) := by decide +kernel
theorem sv_s3_11 : ∀ j, j < 14 → 11 ≠ j → sv_fl[(sv_n.getD 11 []).getD j 0]? = some (Cond.not (Cond.eq (sv_tm 11) (sv_tm j))) ∨ sv_fl[(sv_n.getD 11 []).getD j 0]? = some (Cond.not (Cond.eq (sv_tm j) (sv_tm 11))) := by decide +kernel
theorem sv_s3_12 : ∀ j, j < 14 → 12 ≠ j → sv_fl[(sv_n.getD 12 []).getD j 0]? = some (Cond.not (Cond.eq (sv_tm 12) (sv_tm j))) ∨ sv_fl[(sv_n.getD 12 []).getD j 0]? = some (Cond.not (Cond.eq (sv_tm j) (sv_tm 12))) := by decide +kernel
theorem sv_s3_13 : ∀ j, j < 14 → 13 ≠ j → sv_fl[(sv_n.getD 13 []).getD j 0]? = some (Cond.not (Cond.eq (sv_tm 13) (sv_tm j))) ∨ sv_fl[(sv_n.getD 13 []).getD j 0]? = some (Cond.not (Cond.eq (sv_tm j) (sv_tm 13))) := by decide +kernel
theorem sv_s3 : ∀ i, i < 14 → ∀ j, j < 14 → i ≠ j → Cond.not (Cond.eq (sv_tm i) (sv_tm j)) ∈ sv_fl ∨ Cond.not (Cond.eq (sv_tm j) (sv_tm i)) ∈ sv_fl := by
  intro i hi j hj hne
  match i, hi, hne with
  | 0, _, hne => exact (sv_s3_0 j hj hne).imp List.mem_of_getElem? List.mem_of_getElem?
  | 1, _, hne => exact (sv_s3_1 j hj hne).imp List.mem_of_getElem? List.mem_of_getElem?
  | 2, _, hne => exact (sv_s3_2 j hj hne).imp List.mem_of_getElem? List.mem_of_getElem?
  | 3, _, hne => exact (sv_s3_3 j hj hne).imp List.mem_of_getElem? List.mem_of_getElem?
  | 4, _, hne => exact (sv_s3_4 j hj hne).imp List.mem_of_getElem? List.mem_of_getElem?
  | 5, _, hne => exact (sv_s3_5 j hj hne).imp List.mem_of_getElem? List.mem_of_getElem?
  | 6, _, hne => exact (sv_s3_6 j hj hne).imp List.mem_of_getElem? List.mem_of_getElem?
  | 7, _, hne => exact (sv_s3_7 j hj hne).imp List.mem_of_getElem? List.mem_of_getElem?
  | 8, _, hne => exact (sv_s3_8 j hj hne).imp List.mem_of_getElem? List.mem_of_getElem?
  | 9, _, hne => exact (sv_s3_9 j hj hne).imp List.mem_of_getElem? List.mem_of_getElem?
  | 10, _, hne => exact (sv_s3_10 j hj hne).imp List.mem_of_getElem? List.mem_of_getElem?
  | 11, _, hne => exact (sv_s3_11 j hj hne).imp List.mem_of_getElem? List.mem_of_getElem?
  | 12, _, hne => exact (sv_s3_12 j hj hne).imp List.mem_of_getElem? List.mem_of_getElem?
  | 13, _, hne => exact (sv_s3_13 j hj hne).imp List.mem_of_getElem? List.mem_of_getElem?
  | i + 14, hi, _ => omega
theorem sv_s4 : ∀ i, i < 14 → Cond.stringRef (rb_tx i).1 (rb_tx i).2.1 (rb_tx i).2.2.1 ∈ lw_tbl := by decide +kernel
theorem sv_s5 : ∀ i, i < 14 → rb_len.getD i 0 < 2 ^ 31 := by decide +kernel
theorem sv_a1 : ∀ j, j < 6 → Cond.eq (.elem (.static "RumourBeds$Kinds" "ABOVE" "[I") (.int (Int32.ofNat j))) (.int (rb_abv.getD j 0)) ∈ sv_fl := by decide +kernel
theorem sv_stat {s : State} {b : Nat} (hts : ∀ w ∈ lw_tbl, w.before #[Value.ref b] s = true) (hgv : (Jvm.Cond.and given_1 narrow_1).before #[Value.ref b] s = true) : ∃ (adK adV : Nat → Nat) (ab : Nat), vk_S 14 rb_len rb_byt adK adV (fun q => s.heap.size ≤ q) s s.heap ∧ (∀ i, i < 14 → vk_R (rb_tx i).1 (rb_tx i).2.1 (rb_tx i).2.2.1 (adK i) s) ∧ va_Z "RumourBeds$Kinds" "ABOVE" "[I" (.ref ab) (fun q => s.heap.size ≤ q) s s.heap ∧ va_T .int ab 6 (fun j => .int (rb_abv.getD j 0)) (fun q => s.heap.size ≤ q) s s.heap ∧ va_Z "java/lang/String" "COMPACT_STRINGS" "Z" (.int 1) (fun q => s.heap.size ≤ q) s s.heap ∧ va_Zq "jdk/internal/util/Preconditions" "SIOOBE_FORMATTER" "Ljava/util/function/BiFunction;" (fun q => s.heap.size ≤ q) s s.heap := by
  have hs : ∀ c ∈ sv_fl, c.before #[Value.ref b] s = true := flat_of_before _ hgv
  have hA : ∀ a : Nat, a < s.heap.size → ¬ (fun q : Nat => s.heap.size ≤ q) a := fun a h => Nat.not_le.mpr h
  obtain ⟨adK, adV, h1, h2⟩ := vk_Sof (N := 14) (tm := sv_tm) (len := rb_len) (byt := rb_byt) (A := fun q => s.heap.size ≤ q) sv_s5 (fun i hi => hs _ (sv_s1 i hi).1) (fun i hi => hs _ (sv_s1 i hi).2.1) (fun i hi => hs _ (sv_s1 i hi).2.2.1) (fun i hi => hs _ (sv_s1 i hi).2.2.2) (fun i hi j hj => hs _ (sv_s2 i hi j hj)) (fun i j hi hj hne => (sv_s3 i hi j hj hne).imp (hs _) (hs _)) hA
  obtain ⟨ab, h3, h4⟩ := va_Tof (tm := .static "RumourBeds$Kinds" "ABOVE" "[I") (ty := .int) (N := 6) (f := fun j => .int (rb_abv.getD j 0)) (A := fun q => s.heap.size ≤ q) (by decide) (hs (.arrayOf (.static "RumourBeds$Kinds" "ABOVE" "[I") .int) (by decide +kernel)) (va_eqt (hs (.eq (.length (.static "RumourBeds$Kinds" "ABOVE" "[I")) (.int 6)) (by decide +kernel))) (fun j hj => va_eqt (hs _ (sv_a1 j hj))) hA
  exact ⟨adK, adV, ab, h1, fun i hi => vk_R.of (hts _ (sv_s4 i hi)) (h2 i hi), va_Zof (hts (.laysStatic "RumourBeds$Kinds" "ABOVE" "[I") (by decide +kernel)) (hts (.initialized "RumourBeds$Kinds") (by decide +kernel)) h3 hA, h4, va_Zof (hts (.laysStatic "java/lang/String" "COMPACT_STRINGS" "Z") (by decide +kernel)) (hts (.initialized "java/lang/String") (by decide +kernel)) (va_eqt (hs (.eq (.static "java/lang/String" "COMPACT_STRINGS" "Z") (.int 1)) (by decide +kernel))) hA, va_Zqof (hts (.laysStatic "jdk/internal/util/Preconditions" "SIOOBE_FORMATTER" "Ljava/util/function/BiFunction;") (by decide +kernel)) (hts (.initialized "jdk/internal/util/Preconditions") (by decide +kernel)) (hs (.isRef (.static "jdk/internal/util/Preconditions" "SIOOBE_FORMATTER" "Ljava/util/function/BiFunction;")) (by decide +kernel)) hA⟩
theorem sv_world {s : State} {b : Nat} (hts : ∀ w ∈ lw_tbl, w.before #[Value.ref b] s = true) : ∃ (D : va_G) (cI cJ cS : ClassId), va_K D vwCl (rw_ty cI cJ cS) s ∧ va_AO "RumourBeds$Sheet" s := by
  obtain ⟨c0, i0, k0⟩ := u_known (C := RX1) (T := TX1) (N := 3) (n := 3) hts (fun w h => ((rb_cls 0 _ rfl).1 w h).1) (hts (.instantiable RX1 3) (List.mem_of_getElem? (i := 177) (by decide +kernel)))
  obtain ⟨c1, i1, k1⟩ := u_known (C := RX2) (T := TX2) (N := 6) (n := 6) hts (fun w h => ((rb_cls 1 _ rfl).1 w h).1) (hts (.instantiable RX2 6) (List.mem_of_getElem? (i := 150) (by decide +kernel)))
  obtain ⟨c2, i2, k2⟩ := u_known (C := RX3) (T := TX3) (N := 12) (n := 12) hts (fun w h => ((rb_cls 2 _ rfl).1 w h).1) (hts (.instantiable RX3 12) (List.mem_of_getElem? (i := 90) (by decide +kernel)))
  obtain ⟨c3, i3, k3⟩ := u_known (C := RX4) (T := TX4) (N := 7) (n := 7) hts (fun w h => ((rb_cls 3 _ rfl).1 w h).1) (hts (.instantiable RX4 7) (List.mem_of_getElem? (i := 82) (by decide +kernel)))
  obtain ⟨c4, i4, k4⟩ := u_known (C := RX5) (T := TX5) (N := 16) (n := 16) hts (fun w h => ((rb_cls 4 _ rfl).1 w h).1) (hts (.instantiable RX5 16) (List.mem_of_getElem? (i := 708) (by decide +kernel)))
  have hO := hts (.arrayOver (.object "RumourBeds$Sheet")) (by decide +kernel)
  obtain ⟨cI, kI, mI, a1, a2, a3⟩ := Cond.arrayClass_spec (hts (.arrayClass .int) (by decide +kernel))
  obtain ⟨cJ, kJ, mJ, b1, b2, b3⟩ := Cond.arrayClass_spec (hts (.arrayClass .long) (by decide +kernel))
  obtain ⟨mS, cS, kS, d1, d2, d3, d4, d5⟩ := Cond.arrayOver_spec hO
  refine ⟨(fun k => if k = 0 then c0 else if k = 1 then c1 else if k = 2 then c2 else if k = 3 then c3 else c4, fun k => if k = 0 then i0 else if k = 1 then i1 else if k = 2 then i2 else if k = 3 then i3 else i4), cI, cJ, cS, ⟨fun k q hq => ?_, fun k q hq => ?_⟩, va_AO.of hO⟩
  · match k, hq with
    | 0, hq => cases hq; exact k0
    | 1, hq => cases hq; exact k1
    | 2, hq => cases hq; exact k2
    | 3, hq => cases hq; exact k3
    | 4, hq => cases hq; exact k4
    | k + 5, hq => simp [vwCl] at hq
  · match k, hq with
    | 0, hq => cases hq; exact ⟨fun n z => ⟨fun k h => (by cases h), kI, a2, mI, a3⟩, a1⟩
    | 1, hq => cases hq; exact ⟨fun n z => ⟨fun k h => (by cases h), kJ, b2, mJ, b3⟩, b1⟩
    | 2, hq => cases hq; exact ⟨fun n z => ⟨fun k h => (by cases h), kS, d3, mS, d4⟩, ⟨kS, mS, d3, d4, d1, d5⟩⟩
    | k + 3, hq => simp [rw_ty] at hq
-- ===== YOUR PART BEGINS =====
set_option maxHeartbeats 4000000 in
theorem whole_start {p : Program} {e : Env} {s : State} {m : MethodId} {below : List Frame} {meth : Method} {c : Code} (l : Launch) {b L : Nat} {xs : Nat → Int32} (hL : L ≤ 3072) (C0 : lw_At p s m meth c b L xs) : W p l e room_1 s m #[Value.ref b] below meth c s.heap [] 0 0 (lw_Z below #[Value.ref b] s) (entryFrame m ([Value.ref b] : List Value).toArray 4) := by
  obtain ⟨hx, hb, hr, hml, hown, hts, hX, hbl, hlocks, hgv⟩ := id C0
  have ht : rb_tb s := fun w hw hg => va_Nw.of (rb_gd_on hg) (hts w hw)
  obtain ⟨D, cI, cJ, cS, hK, hAO⟩ := sv_world hts
  obtain ⟨adK, adV, ab, g1, g2, g3, g4, g5, g6⟩ := sv_stat hts hgv
  have hl := lv_entry ([.ref b]) (n := 4) (Nat.le_of_ble_eq_true rfl)
  rw [lg_entry_eq]
  have X0 : rw_CX (p, l, e, room_1, s, m, #[Value.ref b], below, meth, c, (fun q => s.heap.size ≤ q), 54, 1257, lw_Z below #[Value.ref b] s) D (rw_ty cI cJ cS) cL_law 4 RL 13 488 600000 7302250 := ⟨hx, hb, hml, hown, ht, ⟨hK, hAO⟩, fun _ h => h, Nat.le_of_ble_eq_true rfl, Nat.le_of_ble_eq_true rfl, Nat.le_of_ble_eq_true rfl, Nat.le_of_ble_eq_true rfl⟩
  refine sv_walk (b := b) X0 (fun q1 q3 q4 q5 q6 q7 q8 q9 q10 q11 q12 q13 q14 q15 q16 q17 q18 q19 q20 q21 q22 q23 q24 q25 q26 q27 q28 q29 q30 q31 q32 q33 q34 q35 q36 q37 q38 q39 q40 q41 q42 q43 q44 q45 q47 q48 q49 q50 q51 q52 q53 q54 q55 q56 => ?_) s.heap [] _ (fun k q h => by simp at h) ⟨fun i j p q h => by simp at h, fun k q h => by simp at h⟩ va_S.rf hl
  intro H locs ls hP hD hS hls
  have hP2 := sv_P (adK := adK) (adV := adV) (ab := ab) hP
  obtain ⟨hi, hAD⟩ := sv_in (D := D) (adK := adK) (adV := adV) (ab := ab) hD
  have X : rb_CX (p, l, e, room_1, s, m, #[Value.ref b], below, meth, c, (fun q => s.heap.size ≤ q), 54, 1257, lw_Z below #[Value.ref b] s) (sv_G D cI cJ cS (sv_t b q1 q3 q4 q5 q6 q7 q8 q9 q10 q11 q12 q13 q14 q15 q16 q17 q18 q19 q20 q21 q22 q23 q24 q25 q26 q27 q28 q29 q30 q31 q32 q33 q34 q35 q36 q37 q38 q39 q40 q41 q42 q43 q44 q45 q47 q48 q49 q50 q51 q52 q53 q54 q55 q56) adK adV ab) cL_law 4 RL 11 := ⟨hx, hb, hml, hown, ⟨ht, hK, hi, g1.narrow hAD, g2, g3.narrow hAD, g4.narrow hAD, g5.narrow hAD, g6.narrow hAD⟩, hAD, fun a h1 h2 => absurd h2 (Nat.not_le.mpr h1), Nat.le_of_ble_eq_true rfl, Nat.le_of_ble_eq_true rfl, Nat.le_of_ble_eq_true rfl, Nat.le_of_ble_eq_true rfl⟩
  have E : ∀ (L : List Value) (h : rb_H), rb_WP (p, l, e, room_1, s, m, #[Value.ref b], below, meth, c, (fun q => s.heap.size ≤ q), 54, 1257, lw_Z below #[Value.ref b] s) (sv_G D cI cJ cS (sv_t b q1 q3 q4 q5 q6 q7 q8 q9 q10 q11 q12 q13 q14 q15 q16 q17 q18 q19 q20 q21 q22 q23 q24 q25 q26 q27 q28 q29 q30 q31 q32 q33 q34 q35 q36 q37 q38 q39 q40 q41 q42 q43 q44 q45 q47 q48 q49 q50 q51 q52 q53 q54 q55 q56) adK adV ab) 4 1432 L [] h := by
    intro L h H locs ls hP hS hl
    refine va_forget hS.2.2 ?_
    refine lv_iconst (v := 1) hx hb dL_law_1432 (by decide) ?_
    refine W.widen (k := 600000) (n := 7302250) (Nat.le_of_ble_eq_true rfl) (Nat.le_of_ble_eq_true rfl) ?_
    exact lw_ret hx hb hr hlocks dL_law_1433
  exact law_loop X (b := b) (N := L) (xs := xs) ⟨hX, hbl, Nat.not_le.mpr hbl⟩ hL E (L + 1) 0 sv_S sv_h (Nat.zero_le _) (by omega) sv_okS sv_CI sv_MI H locs ls hP2 hS hls
-- ===== YOUR PART ENDS =====
