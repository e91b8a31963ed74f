/-! the words' letters: String.length, charAt -/
section RB6
variable {Z : rb_Z} {G : rb_G} {cc : ByteArray} {nL : Nat} {own : String} {k pc : Nat} {L S : List Value} {h : rb_H}
theorem rb_OFA {A : Nat → Prop} {o n d : String} {v : Value} {t : Nat} {s : State} (hA2 : ∀ a, a < s.heap.size → A a → rb_AD G a) (hT : va_OF o n d v t (rb_AD G) s s.heap) : va_OF o n d v t A s s.heap := by
  obtain ⟨cf, kf, i, f, cell, h1, h2, h3, h4, h5, h6⟩ := hT
  exact ⟨cf, kf, i, f, cell, h1, h2, h3, h4, h5, fun z => h6 (hA2 t (Array.getElem?_eq_some_iff.mp h3).1 z)⟩
theorem rc_sval (X : rb_CX Z G cc nL own k) {idx i : Nat} (hi : i < 14) (lk : Cond.fieldLink own idx "java/lang/String" "value" "[B" ∈ lw_tbl) (d : decode cc pc = .ok (.getfield idx, 3)) (kk : rb_WP Z G nL (pc + 3) L (.ref (G.2.2.2.2.1 i) :: S) h) : rb_WP Z G nL pc L (.ref (G.2.2.2.1 i) :: S) h := by
  obtain ⟨p, l, e, R, s, m, args, below, meth, c, A, cells, slots, Q⟩ := Z
  obtain ⟨hx, hb, hml, hown, hsw, hA, hA2, hf, hlo, hce, hso⟩ := X
  intro H locs ls hP hS hl
  exact vk_getf hx hb (rb_OFA hA2 (hsw.2.2.2.1.1 i hi).2.2.1) hS hown (hsw.1.use lk rfl _) (fun _ h => h) d (kk H locs ls hP hS hl)
theorem rc_scod (X : rb_CX Z G cc nL own k) {idx i : Nat} (hi : i < 14) (lk : Cond.fieldLink own idx "java/lang/String" "coder" "B" ∈ lw_tbl) (d : decode cc pc = .ok (.getfield idx, 3)) (kk : rb_WP Z G nL (pc + 3) L (.int 0 :: S) h) : rb_WP Z G nL pc L (.ref (G.2.2.2.1 i) :: S) h := by
  obtain ⟨p, l, e, R, s, m, args, below, meth, c, A, cells, slots, Q⟩ := Z
  obtain ⟨hx, hb, hml, hown, hsw, hA, hA2, hf, hlo, hce, hso⟩ := X
  intro H locs ls hP hS hl
  exact vk_getf hx hb (rb_OFA hA2 (hsw.2.2.2.1.1 i hi).2.1) hS hown (hsw.1.use lk rfl _) (fun _ h => h) d (kk H locs ls hP hS hl)
theorem rc_slen (X : rb_CX Z G cc nL own k) {i : Nat} (hi : i < 14) (d : decode cc pc = .ok (.arraylength, 1)) (kk : rb_WP Z G nL (pc + 1) L (.int (nI (rb_len.getD i 0)) :: S) h) : rb_WP Z G nL pc L (.ref (G.2.2.2.2.1 i) :: S) h := by
  obtain ⟨p, l, e, R, s, m, args, below, meth, c, A, cells, slots, Q⟩ := Z
  obtain ⟨hx, hb, hml, hown, hsw, hA, hA2, hf, hlo, hce, hso⟩ := X
  intro H locs ls hP hS hl
  exact va_tlen hx hb (rb_TA hA2 (hsw.2.2.2.1.1 i hi).2.2.2) hS rfl d (kk H locs ls hP hS hl)
theorem rc_bald (X : rb_CX Z G cc nL own k) {i : Nat} (hi : i < 14) {j : Int32} (q : Nat) (hj : j = nI q) (hq : q < rb_len.getD i 0) (hl31 : rb_len.getD i 0 < 2 ^ 31) (d : decode cc pc = .ok (.baload, 1)) (kk : rb_WP Z G nL (pc + 1) L (.int ((rb_byt.getD i []).getD q 0) :: S) h) : rb_WP Z G nL pc L (.int j :: .ref (G.2.2.2.2.1 i) :: S) h := by
  obtain ⟨p, l, e, R, s, m, args, below, meth, c, A, cells, slots, Q⟩ := Z
  obtain ⟨hx, hb, hml, hown, hsw, hA, hA2, hf, hlo, hce, hso⟩ := X
  intro H locs ls hP hS hl
  subst hj
  exact va_tb hx hb (rb_TA hA2 (hsw.2.2.2.1.1 i hi).2.2.2) hS (vp_in_nI hq hl31) (by rw [nI_clamp (by omega)]) d (kk H locs ls hP hS hl)
theorem rc_cmps (X : rb_CX Z G cc nL own k) {idx : Nat} (lk : Cond.fieldLink own idx "java/lang/String" "COMPACT_STRINGS" "Z" ∈ lw_tbl) (d : decode cc pc = .ok (.getstatic idx, 3)) (kk : rb_WP Z G nL (pc + 3) L (.int 1 :: S) h) : rb_WP Z G nL pc L S h := by
  obtain ⟨p, l, e, R, s, m, args, below, meth, c, A, cells, slots, Q⟩ := Z
  obtain ⟨hx, hb, hml, hown, hsw, hA, hA2, hf, hlo, hce, hso⟩ := X
  intro H locs ls hP hS hl
  exact va_gets hx hb (rb_ZA hA2 hsw.2.2.2.2.2.2.2.1) hS hown (hsw.1.use lk rfl _) (fun _ h => h) d (kk H locs ls hP hS hl)
theorem rc_sioo (X : rb_CX Z G cc nL own k) {idx : Nat} (lk : Cond.fieldLink own idx "jdk/internal/util/Preconditions" "SIOOBE_FORMATTER" "Ljava/util/function/BiFunction;" ∈ lw_tbl) (d : decode cc pc = .ok (.getstatic idx, 3)) (kk : ∀ v, (v = .null ∨ ∃ t, v = .ref t) → rb_WP Z G nL (pc + 3) L (v :: S) h) : rb_WP Z G nL pc L S h := by
  obtain ⟨p, l, e, R, s, m, args, below, meth, c, A, cells, slots, Q⟩ := Z
  obtain ⟨hx, hb, hml, hown, hsw, hA, hA2, hf, hlo, hce, hso⟩ := X
  intro H locs ls hP hS hl
  rcases hsw.2.2.2.2.2.2.2.2 with hz | ⟨t, hz⟩
  · exact va_gets hx hb (rb_ZA hA2 hz) hS hown (hsw.1.use lk rfl _) (fun _ h => h) d (kk _ (Or.inl rfl) H locs ls hP hS hl)
  · exact va_gets hx hb (rb_ZA hA2 hz) hS hown (hsw.1.use lk rfl _) (fun _ h => h) d (kk _ (Or.inr ⟨t, rfl⟩) H locs ls hP hS hl)
end RB6
theorem fJ0_9 : Cond.fieldLink RJ0 9 "java/lang/String" "value" "[B" ∈ lw_tbl := List.mem_of_getElem? (i := 1212) (by decide +kernel)
theorem fJ0_15 : Cond.fieldLink RJ0 15 "java/lang/String" "coder" "B" ∈ lw_tbl := List.mem_of_getElem? (i := 1213) (by decide +kernel)
theorem fJ0_38 : Cond.fieldLink RJ0 38 "java/lang/String" "COMPACT_STRINGS" "Z" ∈ lw_tbl := List.mem_of_getElem? (i := 542) (by decide +kernel)
theorem fJ0_1053 : Cond.fieldLink RJ0 1053 "jdk/internal/util/Preconditions" "SIOOBE_FORMATTER" "Ljava/util/function/BiFunction;" ∈ lw_tbl := List.mem_of_getElem? (i := 558) (by decide +kernel)
theorem lJ0_335 : Cond.methodLink RJ0 335 yJ0_coder_7d493 ∈ lw_tbl := List.mem_of_getElem? (i := 538) (by decide +kernel)
theorem lJ0_492 : Cond.methodLink RJ0 492 yJ0_isLatin1_aae02 ∈ lw_tbl := List.mem_of_getElem? (i := 548) (by decide +kernel)
theorem lJ0_495 : Cond.methodLink RJ0 495 yJ1_charAt_3b067 ∈ lw_tbl := List.mem_of_getElem? (i := 552) (by decide +kernel)
theorem lJ1_9 : Cond.methodLink RJ1 9 yJ0_checkIndex_df160 ∈ lw_tbl := List.mem_of_getElem? (i := 555) (by decide +kernel)
theorem lJ0_1059 : Cond.methodLink RJ0 1059 yJ3_checkIndex_8e157 ∈ lw_tbl := List.mem_of_getElem? (i := 560) (by decide +kernel)
theorem dvJ3_checkIndex : rb_cS yJ3_checkIndex_8e157 cJ3_checkIndex_8e157 3 (some .int) 3 := ⟨List.mem_of_getElem? (i := 561) (by decide +kernel), List.mem_of_getElem? (i := 79) (by decide +kernel), List.mem_of_getElem? (i := 562) (by decide +kernel), by decide +kernel, by decide⟩
theorem rb_methN {G : rb_G} {k : Nat} {y : MethodName} {cc : ByteArray} {nL : Nat} {rt : Option FieldType} {av L : List Value} {h : rb_H} {post : Option Value → rb_H → Prop} (hy : plainName y.cls = true) (hn : (lg_sl av).length ≤ nL) (hL : ∀ q ∈ rb_pr 0 L, q ∈ lv_args 0 av)
    (body : ∀ Z, rb_CX Z G cc nL y.cls k → rb_RT Z G rt post → rb_WP Z G nL 0 L [] h) : rb_M G k y cc nL rt av h post := by
  intro l
  refine Met.ofW (cc := cc) (maxL := nL) (ret := rt) hy rfl ?_
  intro p e s m args below meth c s₁ B hml hv
  obtain ⟨rfl, hP, hsw⟩ := hv
  have hown : s.vm.findClass y.cls = some m.cls := findClass_of_methodNamed B.named
  have hl := lv_entry av (n := nL) hn
  rw [lg_entry_eq]
  have h1 := body (p, l, e, (headSpec [Cond.code y cc nL rt] (rb_rm k)).room, s, m, av.toArray, below, meth, c, rb_AD G, 0, 0, MQ below (rb_post G post) av.toArray s 0 0 (rb_AD G)) ⟨B.exec, B.bytes, hml, hown, hsw, fun _ h => h, fun _ _ h => h, Nat.le_refl _, Nat.le_refl _, Nat.le_refl _, Nat.le_refl _⟩ ⟨rfl, B.returns, B.notSynchronized, rfl⟩
  exact h1 s.heap [] _ hP va_S.rf (show lv_has _ _ _ from ⟨hl.1, hl.2.1, fun q hq => hl.2.2 q (hL q hq)⟩)
theorem qJ3_checkIndex {G : rb_G} {h : rb_H} {i n : Nat} (hi : i < n) (hn : n < 2 ^ 31) {v : Value} (hv : v = .null ∨ ∃ t, v = .ref t) : rb_M G 0 yJ3_checkIndex_8e157 cJ3_checkIndex_8e157 3 (some .int) [.int (nI i), .int (nI n), v] h (rb_F (some (.int (nI i))) h) := by
  rcases hv with rfl | ⟨t, rfl⟩
  · refine rb_methN (L := [.int (nI i), .int (nI n), .null]) (by decide) (Nat.le_of_ble_eq_true rfl) (fun q hq => List.mem_of_mem_take (i := 2) hq) (fun Z X Y => ?_)
    have X : rb_CX Z G cJ3_checkIndex_8e157 3 RJ3 0 := X
    refine rb_iload_n X (pc := 0) dJ3_checkIndex_8e157_0 rfl rfl ?_
    refine rb_if_lt X (pc := 1) (tgt := 9) dJ3_checkIndex_8e157_1 (by decide) (fun c => absurd c (nI_pos (by omega))) (fun _ => ?_)
    refine rb_iload_n X (pc := 4) dJ3_checkIndex_8e157_4 rfl rfl ?_
    refine rb_iload_n X (pc := 5) dJ3_checkIndex_8e157_5 rfl rfl ?_
    refine rb_icmp_lt X (pc := 6) (tgt := 16) dJ3_checkIndex_8e157_6 (by decide) (fun _ => ?_) (fun c => absurd ((nI_ltI (by omega) (by omega)).mpr hi) c)
    refine rb_iload_n X (pc := 16) dJ3_checkIndex_8e157_16 rfl rfl ?_
    exact rb_iret (S := []) X (pc := 17) Y dJ3_checkIndex_8e157_17 ⟨rfl, rfl⟩
  · refine rb_meth (L := [.int (nI i), .int (nI n), .ref t]) (by decide) (Nat.le_of_ble_eq_true rfl) rfl (fun Z X Y => ?_)
    have X : rb_CX Z G cJ3_checkIndex_8e157 3 RJ3 0 := X
    refine rb_iload_n X (pc := 0) dJ3_checkIndex_8e157_0 rfl rfl ?_
    refine rb_if_lt X (pc := 1) (tgt := 9) dJ3_checkIndex_8e157_1 (by decide) (fun c => absurd c (nI_pos (by omega))) (fun _ => ?_)
    refine rb_iload_n X (pc := 4) dJ3_checkIndex_8e157_4 rfl rfl ?_
    refine rb_iload_n X (pc := 5) dJ3_checkIndex_8e157_5 rfl rfl ?_
    refine rb_icmp_lt X (pc := 6) (tgt := 16) dJ3_checkIndex_8e157_6 (by decide) (fun _ => ?_) (fun c => absurd ((nI_ltI (by omega) (by omega)).mpr hi) c)
    refine rb_iload_n X (pc := 16) dJ3_checkIndex_8e157_16 rfl rfl ?_
    exact rb_iret (S := []) X (pc := 17) Y dJ3_checkIndex_8e157_17 ⟨rfl, rfl⟩
theorem qJ0_checkIndex {G : rb_G} {h : rb_H} {i n : Nat} (hi : i < n) (hn : n < 2 ^ 31) : rb_M G 1 yJ0_checkIndex_df160 cJ0_checkIndex_df160 2 none [.int (nI i), .int (nI n)] h (rb_F none h) := by
  refine rb_meth (L := [.int (nI i), .int (nI n)]) (by decide) (Nat.le_of_ble_eq_true rfl) rfl (fun Z X Y => ?_)
  have X : rb_CX Z G cJ0_checkIndex_df160 2 RJ0 1 := X
  refine rb_iload_n X (pc := 0) dJ0_checkIndex_df160_0 rfl rfl ?_
  refine rb_iload_n X (pc := 1) dJ0_checkIndex_df160_1 rfl rfl ?_
  refine rc_sioo X (pc := 2) fJ0_1053 dJ0_checkIndex_df160_2 (fun v hv => ?_)
  refine rc_callSi X (pc := 5) dvJ3_checkIndex lJ0_1059 (qJ3_checkIndex hi hn hv) (by decide) rfl rfl (Nat.le_of_ble_eq_true rfl) dJ0_checkIndex_df160_5 ?_
  refine rb_pop X (pc := 8) dJ0_checkIndex_df160_8 rfl ?_
  exact rb_vret (S := []) X (pc := 9) Y dJ0_checkIndex_df160_9 ⟨rfl, rfl⟩
theorem rb_len_lt {i : Nat} (hi : i < 14) : rb_len.getD i 0 < 2 ^ 31 := (by decide : ∀ i, i < 14 → rb_len.getD i 0 < 2 ^ 31) i hi
def rb_chr (i j : Nat) : Int32 := (rb_byt.getD i []).getD j 0
theorem rb_chr_and : ∀ i, i < 14 → ∀ j, j < rb_len.getD i 0 → ((((rb_chr i j) &&& 255).toUInt32 % 65536).toInt32 = rb_chr i j) ∧ narrow .char (.int (rb_chr i j)) = .int (rb_chr i j) := by decide +kernel
theorem qJ1_charAt {G : rb_G} {h : rb_H} {i j : Nat} (hi : i < 14) (hj : j < rb_len.getD i 0) : rb_M G 2 yJ1_charAt_3b067 cJ1_charAt_3b067 2 (some .char) [.ref (G.2.2.2.2.1 i), .int (nI j)] h (rb_F (some (.int (rb_chr i j))) h) := by
  have hl := rb_len_lt hi
  refine rb_meth (L := [.ref (G.2.2.2.2.1 i), .int (nI j)]) (by decide) (Nat.le_of_ble_eq_true rfl) rfl (fun Z X Y => ?_)
  have X : rb_CX Z G cJ1_charAt_3b067 2 RJ1 2 := X
  refine rb_iload_n X (pc := 0) dJ1_charAt_3b067_0 rfl rfl ?_
  refine rb_aload_n X (pc := 1) dJ1_charAt_3b067_1 rfl rfl ?_
  refine rc_slen X (pc := 2) hi dJ1_charAt_3b067_2 ?_
  refine rb_callS X (pc := 3) (S := []) cvJ0_checkIndex_df160 lJ1_9 (qJ0_checkIndex hj hl) (by decide) rfl rfl (Nat.le_of_ble_eq_true rfl) dJ1_charAt_3b067_3 (fun _ _ e => ?_)
  rw [e.1, e.2]
  show rb_WP Z G 2 6 [.ref (G.2.2.2.2.1 i), .int (nI j)] [] h
  refine rb_aload_n X (pc := 6) dJ1_charAt_3b067_6 rfl rfl ?_
  refine rb_iload_n X (pc := 7) dJ1_charAt_3b067_7 rfl rfl ?_
  refine rc_bald X (pc := 8) hi j rfl hj hl dJ1_charAt_3b067_8 ?_
  refine rb_sipush (v := 255) X (pc := 9) dJ1_charAt_3b067_9 (by decide) ?_
  refine rb_iand X (pc := 12) dJ1_charAt_3b067_12 ?_
  refine rb_i2c X (pc := 13) dJ1_charAt_3b067_13 ?_
  obtain ⟨e1, e2⟩ := rb_chr_and i hi j hj
  have e3 : (((rb_byt.getD i []).getD j 0 &&& 255).toUInt32 % 65536).toInt32 = rb_chr i j := e1
  rw [e3]
  exact rb_zret (S := []) X (pc := 14) Y dJ1_charAt_3b067_14 e2 ⟨rfl, rfl⟩
theorem qJ0_isLatin1 {G : rb_G} {h : rb_H} {i : Nat} (hi : i < 14) : rb_M G 0 yJ0_isLatin1_aae02 cJ0_isLatin1_aae02 1 (some .boolean) [.ref (G.2.2.2.1 i)] h (rb_F (some (.int 1)) h) := by
  refine rb_meth (L := [.ref (G.2.2.2.1 i)]) (by decide) (Nat.le_of_ble_eq_true rfl) rfl (fun Z X Y => ?_)
  have X : rb_CX Z G cJ0_isLatin1_aae02 1 RJ0 0 := X
  refine rc_cmps X (pc := 0) fJ0_38 dJ0_isLatin1_aae02_0 ?_
  refine rb_if_eq X (pc := 3) (tgt := 17) dJ0_isLatin1_aae02_3 (by decide) (fun c => absurd c (by decide)) (fun _ => ?_)
  refine rb_aload_n X (pc := 6) dJ0_isLatin1_aae02_6 rfl rfl ?_
  refine rc_scod X (pc := 7) hi fJ0_15 dJ0_isLatin1_aae02_7 ?_
  refine rb_if_ne X (pc := 10) (tgt := 17) dJ0_isLatin1_aae02_10 (by decide) (fun c => absurd rfl c) (fun _ => ?_)
  refine rb_iconst (v := 1) X (pc := 13) dJ0_isLatin1_aae02_13 (by decide) ?_
  refine rb_goto X (pc := 14) (tgt := 18) dJ0_isLatin1_aae02_14 (by decide) ?_
  exact rb_zret (S := []) X (pc := 18) Y dJ0_isLatin1_aae02_18 rfl ⟨rfl, rfl⟩
theorem qJ0_coder {G : rb_G} {h : rb_H} {i : Nat} (hi : i < 14) : rb_M G 0 yJ0_coder_7d493 cJ0_coder_7d493 1 (some .byte) [.ref (G.2.2.2.1 i)] h (rb_F (some (.int 0)) h) := by
  refine rb_meth (L := [.ref (G.2.2.2.1 i)]) (by decide) (Nat.le_of_ble_eq_true rfl) rfl (fun Z X Y => ?_)
  have X : rb_CX Z G cJ0_coder_7d493 1 RJ0 0 := X
  refine rc_cmps X (pc := 0) fJ0_38 dJ0_coder_7d493_0 ?_
  refine rb_if_eq X (pc := 3) (tgt := 13) dJ0_coder_7d493_3 (by decide) (fun c => absurd c (by decide)) (fun _ => ?_)
  refine rb_aload_n X (pc := 6) dJ0_coder_7d493_6 rfl rfl ?_
  refine rc_scod X (pc := 7) hi fJ0_15 dJ0_coder_7d493_7 ?_
  refine rb_goto X (pc := 10) (tgt := 14) dJ0_coder_7d493_10 (by decide) ?_
  exact rb_zret (S := []) X (pc := 14) Y dJ0_coder_7d493_14 rfl ⟨rfl, rfl⟩
theorem rb_shr0 (x : Int32) : x >>> ((0 : Int32) &&& 31) = x := by
  have e : (0 : Int32) &&& 31 = 0 := by decide
  rw [e]
  apply Int32.toBitVec_inj.mp
  simp [Int32.toBitVec_shiftRight]
theorem qJ0_length_8abf5 {G : rb_G} {h : rb_H} {i : Nat} (hi : i < 14) : rb_M G 1 yJ0_length_8abf5 cJ0_length_8abf5 1 (some .int) [.ref (G.2.2.2.1 i)] h (rb_F (some (.int (nI (rb_len.getD i 0)))) h) := by
  refine rb_meth (L := [.ref (G.2.2.2.1 i)]) (by decide) (Nat.le_of_ble_eq_true rfl) rfl (fun Z X Y => ?_)
  have X : rb_CX Z G cJ0_length_8abf5 1 RJ0 1 := X
  refine rb_aload_n X (pc := 0) dJ0_length_8abf5_0 rfl rfl ?_
  refine rc_sval X (pc := 1) hi fJ0_9 dJ0_length_8abf5_1 ?_
  refine rc_slen X (pc := 4) hi dJ0_length_8abf5_4 ?_
  refine rb_aload_n X (pc := 5) dJ0_length_8abf5_5 rfl rfl ?_
  refine rc_callTi X (pc := 6) cvJ0_coder_7d493 lJ0_335 hi rfl (qJ0_coder hi) (by decide) rfl rfl (Nat.le_of_ble_eq_true rfl) dJ0_length_8abf5_6 ?_
  refine rb_ishr X (pc := 9) dJ0_length_8abf5_9 ?_
  rw [rb_shr0]
  exact rb_iret (S := []) X (pc := 10) Y dJ0_length_8abf5_10 ⟨rfl, rfl⟩
theorem qJ0_charAt_5068e {G : rb_G} {h : rb_H} {i j : Nat} (hi : i < 14) (hj : j < rb_len.getD i 0) : rb_M G 3 yJ0_charAt_5068e cJ0_charAt_5068e 2 (some .char) [.ref (G.2.2.2.1 i), .int (nI j)] h (rb_F (some (.int (rb_chr i j))) h) := by
  refine rb_meth (L := [.ref (G.2.2.2.1 i), .int (nI j)]) (by decide) (Nat.le_of_ble_eq_true rfl) rfl (fun Z X Y => ?_)
  have X : rb_CX Z G cJ0_charAt_5068e 2 RJ0 3 := X
  refine rb_aload_n X (pc := 0) dJ0_charAt_5068e_0 rfl rfl ?_
  refine rc_callTi X (pc := 1) cvJ0_isLatin1_aae02 lJ0_492 hi rfl (qJ0_isLatin1 hi) (by decide) rfl rfl (Nat.le_of_ble_eq_true rfl) dJ0_charAt_5068e_1 ?_
  refine rb_if_eq X (pc := 4) (tgt := 16) dJ0_charAt_5068e_4 (by decide) (fun c => absurd c (by decide)) (fun _ => ?_)
  refine rb_aload_n X (pc := 7) dJ0_charAt_5068e_7 rfl rfl ?_
  refine rc_sval X (pc := 8) hi fJ0_9 dJ0_charAt_5068e_8 ?_
  refine rb_iload_n X (pc := 11) dJ0_charAt_5068e_11 rfl rfl ?_
  refine rc_callSi X (pc := 12) cvJ1_charAt_3b067 lJ0_495 (qJ1_charAt hi hj) (by decide) rfl rfl (Nat.le_of_ble_eq_true rfl) dJ0_charAt_5068e_12 ?_
  exact rb_zret (S := []) X (pc := 15) Y dJ0_charAt_5068e_15 (rb_chr_and i hi j hj).2 ⟨rfl, rfl⟩
