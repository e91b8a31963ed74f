/-! the abstract heap: ints by object, field, place; longs likewise. Objects: 0 1 2 towns (street, ahead, kept), 3 tape, 4..7 sheets, 8 RumourBeds, 9 RumourBedsModel -/
abbrev rb_T : Type := Nat → Nat → Int32
abbrev rb_N : Type := Nat → Nat → Int64
abbrev rb_H : Type := (Nat → rb_T) × (Nat → rb_N)
/-- the world's fixed part: kit's class data, array classes, addresses, addresses of the string constants and of their bytes, the address of ABOVE -/
abbrev rb_G : Type := va_G × (Nat → ClassId) × (Nat → Nat → Nat) × (Nat → Nat) × (Nat → Nat) × Nat
def rb_ad (G : rb_G) (o j : Nat) : Nat := G.2.2.1 o j
def rb_tys (G : rb_G) : List (ClassId × FieldType) := [(G.2.1 0, .int), (G.2.1 1, .long), (G.2.1 2, .object "RumourBeds$Sheet")]
def rb_fk (o : Nat) : List Nat := if o < 3 then [1,1,1,1,0,1,1,1,1,1,0,0] else if o = 3 then [1,0,0,0,0,0] else if o < 8 then [0,0,1] else if o = 8 then [2,3,4,0,5,1,1] else [1,1,1,1,1,0,1,0,0,0,0,0,1,1,1,1]
def rb_ci (o : Nat) : Nat := if o < 3 then 2 else if o = 3 then 1 else if o < 8 then 0 else if o = 8 then 3 else 4
def rb_fv0 (G : rb_G) (h : rb_H) (o j : Nat) : Nat → Value
  | 0 => .int (h.1 o j 0)
  | 1 => .ref (rb_ad G o (j + 1))
  | k + 2 => .ref (rb_ad G k 0)
def rb_fv (G : rb_G) (h : rb_H) (o j : Nat) : Value := rb_fv0 G h o j ((rb_fk o).getD j 0)
def rb_fl (G : rb_G) (h : rb_H) (o : Nat) : List Value := (List.range (rb_fk o).length).map (rb_fv G h o)
/-- an array field: sort (0 int, 1 long, 2 sheets), length -/
def rb_ak (o j : Nat) : Nat × Nat := if o < 3 then (0, if j < 4 then 8 else 10) else if o = 3 then (0, 120) else if o < 8 then (1, 40) else if o = 8 then (if j = 5 then (2, 4) else (0, 7)) else if j < 4 then (0, 77) else if j = 4 then (0, 7) else if j = 6 then (0, 120) else if j < 14 then (0, 4) else if j = 14 then (1, 160) else (1, 40)
def rb_ac (G : rb_G) (h : rb_H) (o j : Nat) : Nat → va_E
  | 0 => .inl (G.2.1 0, (rb_ak o j).2, .inl (h.1 o j))
  | 1 => .inl (G.2.1 1, (rb_ak o j).2, .inr (.inl (h.2 o j)))
  | _ => .inl (G.2.1 2, (rb_ak o j).2, .inr (.inr (.inr (.inr (fun i => some (rb_ad G (4 + i) 0))))))
def rb_cl (G : rb_G) (h : rb_H) (o : Nat) : Nat → va_E
  | 0 => .inr (rb_ci o, rb_fl G h o)
  | j + 1 => rb_ac G h o j (rb_ak o j).1
def rb_ids : List (Nat × Nat) := [(0,0),(0,1),(0,2),(0,3),(0,4),(0,6),(0,7),(0,8),(0,9),(0,10),(1,0),(1,1),(1,2),(1,3),(1,4),(1,6),(1,7),(1,8),(1,9),(1,10),(2,0),(2,1),(2,2),(2,3),(2,4),(2,6),(2,7),(2,8),(2,9),(2,10),(3,0),(3,1),(4,0),(4,3),(5,0),(5,3),(6,0),(6,3),(7,0),(7,3),(8,0),(8,6),(8,7),(9,0),(9,1),(9,2),(9,3),(9,4),(9,5),(9,7),(9,13),(9,14),(9,15),(9,16)]
def rb_cw (G : rb_G) (h : rb_H) : va_W := rb_ids.map (fun q => (rb_ad G q.1 q.2, rb_cl G h q.1 q.2))
def rb_AD (G : rb_G) : Nat → Prop := fun a => ∃ q ∈ rb_ids, a = rb_ad G q.1 q.2
theorem rb_nd : rb_ids.Nodup := by decide
theorem rb_at {G : rb_G} {h : rb_H} {o j : Nat} (hq : (o, j) ∈ rb_ids) : ∃ k : Nat, rb_ids[k]? = some (o, j) ∧ (rb_cw G h)[k]? = some (rb_ad G o j, rb_cl G h o j) := by
  obtain ⟨k, hk⟩ := List.getElem?_of_mem hq
  exact ⟨k, hk, by simp [rb_cw, hk]⟩
theorem rb_set {G : rb_G} {h h' : rb_H} {k o j : Nat} {e : va_E} (hk : rb_ids[k]? = some (o, j)) (he : rb_cl G h' o j = e) (ho : ∀ o' j', (o', j') ∈ rb_ids → (o', j') ≠ (o, j) → rb_cl G h' o' j' = rb_cl G h o' j') : (rb_cw G h).set k (rb_ad G o j, e) = rb_cw G h' := by
  apply List.ext_getElem?
  intro i
  have hkl : k < rb_ids.length := (List.getElem?_eq_some_iff.mp hk).1
  by_cases hik : i = k
  · subst hik
    rw [List.getElem?_set_self (by simpa [rb_cw] using hkl)]
    simp [rb_cw, hk, he]
  · rw [List.getElem?_set_ne (Ne.symm hik)]
    cases hi : rb_ids[i]? with
    | none => simp [rb_cw, hi]
    | some q =>
      obtain ⟨o', j'⟩ := q
      have hne : (o', j') ≠ (o, j) := fun e => hik (by
        have hl : i < rb_ids.length := (List.getElem?_eq_some_iff.mp hi).1
        exact (List.getElem?_inj hl rb_nd).mp (by rw [hi, hk, e]))
      simp [rb_cw, hi, ho o' j' (List.mem_of_getElem? hi) hne]
/-- the tables' words that go along with every call -/
def rb_gd : Cond → Bool
  | .fieldLinkNest .. => true
  | .methodLinkNest .. => true
  | w => w.onTables && w.keeps
def rb_tb (U : State) : Prop := ∀ w ∈ lw_tbl, rb_gd w = true → w.before #[] U = true
theorem rb_gd_on {w : Cond} (h : rb_gd w = true) : w.onTables = true := by
  cases w <;> first | rfl | (simp [rb_gd, Cond.onTables] at h)
theorem rb_tb.use {U : State} (h : rb_tb U) {w : Cond} (hw : w ∈ lw_tbl) (hg : rb_gd w = true) (A : Array Value) : w.before A U = true := va_Nw.use (rb_gd_on hg) (h w hw hg)
theorem rb_tb.same {u U : State} (hv : u.vm = U.vm) (h : rb_tb u) : rb_tb U := fun w hw hg => va_Nw.same (rb_gd_on hg) hv (h w hw hg)
theorem rb_gd_warm {w : Cond} {s U : State} (hg : rb_gd w = true) (hW : s.WarmedH U.vm) (h : w.before #[] s = true) : w.before #[] U = true := by
  by_cases hk : (w.onTables && w.keeps) = true
  · exact word_at hW (Or.inl hk) h
  · cases w <;> first | exact va_Nw.warmF hW h | exact va_Nw.warmM hW h | exact absurd hg hk
theorem rb_tb.warm {s U : State} (hW : s.WarmedH U.vm) (h : rb_tb s) : rb_tb U := fun w hw hg => rb_gd_warm hg hW (h w hw hg)
/-- string constants: whose pool, place, text, bytes -/
def rb_txt : List (String × Nat × String × List Int32) := [("RumourBeds$Kinds", 29, "rumour", [114, 117, 109, 111, 117, 114]), ("RumourBeds$Kinds", 19, "big", [98, 105, 103]), ("RumourBeds$Kinds", 21, "dull", [100, 117, 108, 108]), ("RumourBeds$Kinds", 23, "shy", [115, 104, 121]), ("RumourBeds$Kinds", 25, "royal", [114, 111, 121, 97, 108]), ("RumourBeds$Kinds", 27, "wells", [119, 101, 108, 108, 115]), ("RumourBeds$Tape", 38, "house", [104, 111, 117, 115, 101]), ("RumourBeds$Tape", 47, "true", [116, 114, 117, 101]), ("RumourBeds$Tape", 66, "beds", [98, 101, 100, 115]), ("RumourBeds$Tape", 76, "larder", [108, 97, 114, 100, 101, 114]), ("RumourBeds$Tape", 81, "leans", [108, 101, 97, 110, 115]), ("RumourBeds$Tape", 92, "of", [111, 102]), ("RumourBeds$Tape", 98, "bulk", [98, 117, 108, 107]), ("RumourBeds$Tape", 110, "in", [105, 110])]
def rb_len : List Nat := rb_txt.map (fun q => q.2.2.2.length)
def rb_byt : List (List Int32) := rb_txt.map (fun q => q.2.2.2)
def rb_tx (i : Nat) : String × Nat × String × List Int32 := rb_txt.getD i ("", 0, "", [])
def rb_abv : List Int32 := [-1, 0, 0, 0, 1, 2]
/-- what stays as it is -/
def rb_sw (G : rb_G) (U : State) (H : Heap) : Prop :=
  rb_tb U ∧ va_K G.1 vwCl (rb_tys G) U ∧ (∀ q ∈ rb_ids, ∀ q' ∈ rb_ids, rb_ad G q.1 q.2 = rb_ad G q'.1 q'.2 → q = q') ∧
  vk_S 14 rb_len rb_byt G.2.2.2.1 G.2.2.2.2.1 (rb_AD G) U H ∧ (∀ i, i < 14 → vk_R (rb_tx i).1 (rb_tx i).2.1 (rb_tx i).2.2.1 (G.2.2.2.1 i) U) ∧
  va_Z "RumourBeds$Kinds" "ABOVE" "[I" (.ref G.2.2.2.2.2) (rb_AD G) U H ∧ va_T .int G.2.2.2.2.2 6 (fun j => .int (rb_abv.getD j 0)) (rb_AD G) U H ∧
  va_Z "java/lang/String" "COMPACT_STRINGS" "Z" (.int 1) (rb_AD G) U H ∧
  va_Zq "jdk/internal/util/Preconditions" "SIOOBE_FORMATTER" "Ljava/util/function/BiFunction;" (rb_AD G) U H
theorem rb_sw.same {G : rb_G} {u U : State} {H : Heap} (hv : u.vm = U.vm) (h : rb_sw G u H) : rb_sw G U H := by
  obtain ⟨h1, h2, h3, h4, h5, h6, h7, h8, h9⟩ := h
  have ha : u.vm.Alike U.vm := by rw [hv]; exact Vm.Alike.refl _
  exact ⟨h1.same hv, va_K.moved ha h2, h3, h4.moved ha, fun i hi => vk_R.same hv.symm (h5 i hi), h6.moved ha, h7.moved ha, h8.moved ha, h9.moved ha⟩
theorem rb_sw.warm {G : rb_G} {s U : State} {H : Heap} (hW : s.WarmedH U.vm) (h : rb_sw G s H) : rb_sw G U H := by
  obtain ⟨h1, h2, h3, h4, h5, h6, h7, h8, h9⟩ := h
  have ha := hW.alike
  exact ⟨h1.warm hW, va_K.moved ha h2, h3, h4.moved ha, fun i hi => vk_R.warm hW (h5 i hi), h6.moved ha, h7.moved ha, h8.moved ha, h9.moved ha⟩
theorem rb_sw.kept {G : rb_G} {U : State} {H H1 : Heap} (h : rb_sw G U H) (hq : ∀ a : Nat, a < H.size → ¬ rb_AD G a → H1[a]? = H[a]?) : rb_sw G U H1 := by
  obtain ⟨h1, h2, h3, h4, h5, h6, h7, h8, h9⟩ := h
  exact ⟨h1, h2, h3, h4.kept hq, h5, h6.kept hq, h7.kept hq, h8.kept hq, h9.kept hq⟩
theorem rb_D {G : rb_G} {A : Nat → Prop} {h : rb_H} (hi : ∀ q ∈ rb_ids, ∀ q' ∈ rb_ids, rb_ad G q.1 q.2 = rb_ad G q'.1 q'.2 → q = q') (hA : ∀ a, rb_AD G a → A a) : va_D A (rb_cw G h) := by
  have key : ∀ (k : Nat) (x : Nat × va_E), (rb_cw G h)[k]? = some x → ∃ q, rb_ids[k]? = some q ∧ x.1 = rb_ad G q.1 q.2 := by
    intro k x hk
    simp only [rb_cw, List.getElem?_map, Option.map_eq_some_iff] at hk
    obtain ⟨q, h1, h2⟩ := hk
    exact ⟨q, h1, by rw [← h2]⟩
  refine ⟨fun i j x y hx hy hxy => ?_, fun k x hx => ?_⟩
  · obtain ⟨q, h1, h2⟩ := key i x hx
    obtain ⟨q', h3, h4⟩ := key j y hy
    have e := hi q (List.mem_of_getElem? h1) q' (List.mem_of_getElem? h3) (by rw [← h2, ← h4, hxy])
    subst e
    exact (List.getElem?_inj (List.getElem?_eq_some_iff.mp h1).1 rb_nd).mp (by rw [h1, h3])
  · obtain ⟨q, h1, h2⟩ := key k x hx
    exact hA _ ⟨q, List.mem_of_getElem? h1, h2⟩
/-! locals as a list of values (null: not known) -/
def rb_pr : Nat → List Value → List (Nat × Value)
  | _, [] => []
  | i, .null :: l => rb_pr (i + 1) l
  | i, v :: l => (i, v) :: rb_pr (i + 1) l
theorem rb_pr_mem : ∀ (L : List Value) (n : Nat) (q : Nat × Value), q ∈ rb_pr n L ↔ ∃ i, q.1 = n + i ∧ L[i]? = some q.2 ∧ q.2 ≠ .null := by
  intro L
  induction L with
  | nil => intro n q; simp [rb_pr]
  | cons v l ih =>
    intro n q
    have step : (∃ i, q.1 = n + i ∧ (v :: l)[i]? = some q.2 ∧ q.2 ≠ .null) ↔ (q.1 = n ∧ v = q.2 ∧ q.2 ≠ .null) ∨ ∃ i, q.1 = n + 1 + i ∧ l[i]? = some q.2 ∧ q.2 ≠ .null := by
      constructor
      · rintro ⟨i, h1, h2, h3⟩
        cases i with
        | zero => exact Or.inl ⟨by omega, by simpa using h2, h3⟩
        | succ i => exact Or.inr ⟨i, by omega, by simpa using h2, h3⟩
      · rintro (⟨h1, h2, h3⟩ | ⟨i, h1, h2, h3⟩)
        · exact ⟨0, by omega, by simpa using h2, h3⟩
        · exact ⟨i + 1, by omega, by simpa using h2, h3⟩
    rw [step]
    cases v with
    | null => simp only [rb_pr, ih]; constructor <;> intro h; exact Or.inr h; rcases h with ⟨_, h2, h3⟩ | h; exact absurd h2.symm h3; exact h
    | _ =>
      simp only [rb_pr, List.mem_cons, ih]
      constructor
      · rintro (rfl | h)
        · exact Or.inl ⟨rfl, rfl, by simp⟩
        · exact Or.inr h
      · rintro (⟨h1, h2, h3⟩ | h)
        · exact Or.inl (by obtain ⟨a, b⟩ := q; simp only at h1 h2; subst h1; subst h2; rfl)
        · exact Or.inr h
def rb_HL (ls : Array Slot) (nL : Nat) (L : List Value) : Prop := lv_has ls nL (rb_pr 0 L)
theorem rb_HL.at {ls : Array Slot} {nL : Nat} {L : List Value} (h : rb_HL ls nL L) {i : Nat} {v : Value} (hi : L[i]? = some v) (hn : v ≠ .null) : ls[i]? = some (.val v) := h.2.2 (i, v) ((rb_pr_mem L 0 (i, v)).mpr ⟨i, by simp, hi, hn⟩)
def rb_ok1 (L : List Value) : Nat → Bool
  | 0 => true
  | j + 1 => match L[j]? with
    | some v => !(v.category == 2)
    | none => true
theorem rb_HL.set1 {ls : Array Slot} {nL : Nat} {L : List Value} {i : Nat} {v : Value} (hv : rb_ok1 L i = true) (h : lv_has ls nL ((i, v) :: (rb_pr 0 L).filter (fun q => !(q.1 == i) && !(q.1 + 1 == i && q.2.category == 2)))) : rb_HL ls nL (L.set i v) := by
  refine ⟨h.1, h.2.1, fun q hq => h.2.2 q ?_⟩
  obtain ⟨j, h1, h2, h3⟩ := (rb_pr_mem _ _ _).mp hq
  rw [Nat.zero_add] at h1
  by_cases hj : j = i
  · subst hj
    have hl : j < (L.set j v).length := (List.getElem?_eq_some_iff.mp h2).1
    rw [List.getElem?_set_self (by simpa using hl)] at h2
    have : q = (j, v) := by obtain ⟨a, b⟩ := q; simp only at h1 h2; rw [h1, ← Option.some.inj h2]
    rw [this]; exact List.mem_cons_self
  · rw [List.getElem?_set_ne (Ne.symm hj)] at h2
    refine List.mem_cons_of_mem _ (List.mem_filter.mpr ⟨(rb_pr_mem _ _ _).mpr ⟨j, by omega, h2, h3⟩, ?_⟩)
    have e1 : (q.1 == i) = false := by simp; omega
    rw [e1]
    cases hc : (q.1 + 1 == i) with
    | false => simp
    | true =>
      have e2 : i = j + 1 := by simp at hc; omega
      subst e2
      simp only [rb_ok1, h2] at hv
      simp at hv ⊢
      exact hv
theorem rb_HL.set2 {ls : Array Slot} {nL : Nat} {L : List Value} {i : Nat} {v : Value} (hv : rb_ok1 L i = true) (h : lv_has ls nL ((i, v) :: (rb_pr 0 L).filter (fun q => !(q.1 == i) && (!(q.1 == i + 1) && !(q.1 + 1 == i && q.2.category == 2))))) : rb_HL ls nL ((L.set i v).set (i + 1) .null) := by
  refine ⟨h.1, h.2.1, fun q hq => h.2.2 q ?_⟩
  obtain ⟨j, h1, h2, h3⟩ := (rb_pr_mem _ _ _).mp hq
  rw [Nat.zero_add] at h1
  by_cases hj1 : j = i + 1
  · subst hj1
    have hl : i + 1 < ((L.set i v).set (i + 1) .null).length := (List.getElem?_eq_some_iff.mp h2).1
    rw [List.getElem?_set_self (by simpa using hl)] at h2
    exact absurd (Option.some.inj h2).symm h3
  rw [List.getElem?_set_ne (Ne.symm hj1)] at h2
  by_cases hj : j = i
  · subst hj
    have hl : j < (L.set j v).length := (List.getElem?_eq_some_iff.mp h2).1
    rw [List.getElem?_set_self (by simpa using hl)] at h2
    have : q = (j, v) := by obtain ⟨a, b⟩ := q; simp only at h1 h2; rw [h1, ← Option.some.inj h2]
    rw [this]; exact List.mem_cons_self
  · rw [List.getElem?_set_ne (Ne.symm hj)] at h2
    refine List.mem_cons_of_mem _ (List.mem_filter.mpr ⟨(rb_pr_mem _ _ _).mpr ⟨j, by omega, h2, h3⟩, ?_⟩)
    have e1 : (q.1 == i) = false := by simp; omega
    have e3 : (q.1 == i + 1) = false := by simp; omega
    rw [e1, e3]
    cases hc : (q.1 + 1 == i) with
    | false => simp
    | true =>
      have e2 : i = j + 1 := by simp at hc; omega
      subst e2
      simp only [rb_ok1, h2] at hv
      simp at hv ⊢
      exact hv
/-! the machine's side of a walk -/
abbrev rb_Z : Type := Program × Launch × Env × Room × State × MethodId × Array Value × List Frame × Method × Code × (Nat → Prop) × Nat × Nat × (State → Prop)
/-- WP: from every machine that holds the abstract heap h and the locals L, at pc with stack S, the machine comes to its end -/
def rb_WP (Z : rb_Z) (G : rb_G) (nL pc : Nat) (L S : List Value) (h : rb_H) : Prop := match Z with
  | (p, l, e, R, s, m, args, below, meth, c, A, cells, slots, Q) => ∀ (H : Heap) (locs : List Loc) (ls : Array Slot), va_P G.1 vwCl (rb_cw G h) H → va_S A s.heap H locs → rb_HL ls nL L → W p l e R s m args below meth c H locs cells slots Q (F0 m pc ls S)
def rb_CX (Z : rb_Z) (G : rb_G) (cc : ByteArray) (nL : Nat) (own : String) (k : Nat) : Prop := match Z with
  | (p, l, e, R, s, m, args, below, meth, c, A, cells, slots, Q) => p.tables.exec = Jvm.exec ∧ c.code = cc ∧ c.maxLocals = nL ∧ s.vm.findClass own = some m.cls ∧ rb_sw G s s.heap ∧ (∀ a, rb_AD G a → A a) ∧ (∀ a, a < s.heap.size → A a → rb_AD G a) ∧ k ≤ R.frames ∧ 44 * k ≤ R.locals ∧ cells ≤ R.cells ∧ slots ≤ R.slots
def rb_rm (k : Nat) : Room := { frames := k, cells := 0, slots := 0, locals := 44 * k }
def rb_W (G : rb_G) (h : rb_H) (U : State) : Prop := va_P G.1 vwCl (rb_cw G h) U.heap ∧ rb_sw G U U.heap
def rb_post (G : rb_G) (post : Option Value → rb_H → Prop) : Array Value → State → Outcome → State → Prop := fun _ st oc t => (∃ r h', oc = .returned r ∧ post r h' ∧ va_P G.1 vwCl (rb_cw G h') t.heap) ∧ va_F (rb_AD G) st t
/-- a contract: from the abstract heap h, with these arguments, y returns with 'post answer heap' -/
def rb_M (G : rb_G) (k : Nat) (y : MethodName) (cc : ByteArray) (nL : Nat) (rt : Option FieldType) (av : List Value) (h : rb_H) (post : Option Value → rb_H → Prop) : Prop :=
  ∀ l : Launch, Met l y [Cond.code y cc nL rt] (rb_rm k) (va_Pc av (rb_W G h)) (rb_post G post) 0 0 (rb_AD G)
def rb_RT (Z : rb_Z) (G : rb_G) (rt : Option FieldType) (post : Option Value → rb_H → Prop) : Prop := match Z with
  | (p, l, e, R, s, m, args, below, meth, c, A, cells, slots, Q) => Q = MQ below (rb_post G post) args s cells slots (rb_AD G) ∧ meth.sig.returnType = rt ∧ meth.locks = false ∧ A = rb_AD G
theorem rb_meth {G : rb_G} {k : Nat} {y : MethodName} {cc : ByteArray} {nL : Nat} {rt : Option FieldType} {av L : List Value} {h : rb_H} {post : Option Value → rb_H → Prop} (hy : plainName y.cls = true) (hn : (lg_sl av).length ≤ nL) (hL : rb_pr 0 L = lv_args 0 av)
    (body : ∀ Z, rb_CX Z G cc nL y.cls k → rb_RT Z G rt post → rb_WP Z G nL 0 L [] h) : rb_M G k y cc nL rt av h post := by
  intro l
  refine Met.ofW (cc := cc) (maxL := nL) (ret := rt) hy rfl ?_
  intro p e s m args below meth c s₁ B hml hv
  obtain ⟨rfl, hP, hsw⟩ := hv
  have hown : s.vm.findClass y.cls = some m.cls := findClass_of_methodNamed B.named
  have hl := lv_entry av (n := nL) hn
  rw [lg_entry_eq]
  have h1 := body (p, l, e, (headSpec [Cond.code y cc nL rt] (rb_rm k)).room, s, m, av.toArray, below, meth, c, rb_AD G, 0, 0, MQ below (rb_post G post) av.toArray s 0 0 (rb_AD G)) ⟨B.exec, B.bytes, hml, hown, hsw, fun _ h => h, fun _ _ h => h, Nat.le_refl _, Nat.le_refl _, Nat.le_refl _, Nat.le_refl _⟩ ⟨rfl, B.returns, B.notSynchronized, rfl⟩
  exact h1 s.heap [] _ hP va_S.rf (show lv_has _ _ _ by rw [hL]; exact hl)
theorem rb_blind {G : rb_G} {av : List Value} {h : rb_H} : FrameBlind (va_Pc av (rb_W G h)) := fun a U g mk q => ⟨q.1, q.2.1, rb_sw.same (u := U) (U := U.calling g mk a) (H := U.heap) rfl q.2.2⟩

theorem rb_iconst {Z : rb_Z} {G : rb_G} {cc : ByteArray} {nL : Nat} {own : String} {k pc : Nat} {L S : List Value} {h : rb_H} (X : rb_CX Z G cc nL own k) {n : Int} {v : Int32} (d : decode cc pc = .ok (.iconst n, 1)) (hv : Int32.ofInt n = v) (kk : rb_WP Z G nL (pc + 1) L (.int v :: S) h) : rb_WP Z G nL pc L (S) h := by
  obtain ⟨p, l, e, R, s, m, args, below, meth, c, A, cells, slots, Q⟩ := Z
  obtain ⟨hx, hb, hml, hown, hsw, hA, hA2, hf, hlo, hce, hso⟩ := X
  intro H locs ls hP hS hl
  exact lv_iconst hx hb d hv (kk H locs ls hP hS hl)
theorem rb_bipush {Z : rb_Z} {G : rb_G} {cc : ByteArray} {nL : Nat} {own : String} {k pc : Nat} {L S : List Value} {h : rb_H} (X : rb_CX Z G cc nL own k) {n : Int} {v : Int32} (d : decode cc pc = .ok (.bipush n, 2)) (hv : (Int8.ofInt n).toInt32 = v) (kk : rb_WP Z G nL (pc + 2) L (.int v :: S) h) : rb_WP Z G nL pc L (S) h := by
  obtain ⟨p, l, e, R, s, m, args, below, meth, c, A, cells, slots, Q⟩ := Z
  obtain ⟨hx, hb, hml, hown, hsw, hA, hA2, hf, hlo, hce, hso⟩ := X
  intro H locs ls hP hS hl
  exact lv_bipush hx hb d hv (kk H locs ls hP hS hl)
theorem rb_sipush {Z : rb_Z} {G : rb_G} {cc : ByteArray} {nL : Nat} {own : String} {k pc : Nat} {L S : List Value} {h : rb_H} (X : rb_CX Z G cc nL own k) {n : Int} {v : Int32} (d : decode cc pc = .ok (.sipush n, 3)) (hv : (Int16.ofInt n).toInt32 = v) (kk : rb_WP Z G nL (pc + 3) L (.int v :: S) h) : rb_WP Z G nL pc L (S) h := by
  obtain ⟨p, l, e, R, s, m, args, below, meth, c, A, cells, slots, Q⟩ := Z
  obtain ⟨hx, hb, hml, hown, hsw, hA, hA2, hf, hlo, hce, hso⟩ := X
  intro H locs ls hP hS hl
  exact lv_sipush hx hb d hv (kk H locs ls hP hS hl)
theorem rb_lconst {Z : rb_Z} {G : rb_G} {cc : ByteArray} {nL : Nat} {own : String} {k pc : Nat} {L S : List Value} {h : rb_H} (X : rb_CX Z G cc nL own k) {n : Fin 2} {v : Int64} (d : decode cc pc = .ok (.lconst n, 1)) (hv : Int64.ofNat (n : Nat) = v) (kk : rb_WP Z G nL (pc + 1) L (.long v :: S) h) : rb_WP Z G nL pc L (S) h := by
  obtain ⟨p, l, e, R, s, m, args, below, meth, c, A, cells, slots, Q⟩ := Z
  obtain ⟨hx, hb, hml, hown, hsw, hA, hA2, hf, hlo, hce, hso⟩ := X
  intro H locs ls hP hS hl
  exact lv_lconst hx hb d hv (kk H locs ls hP hS hl)
theorem rb_ldc {Z : rb_Z} {G : rb_G} {cc : ByteArray} {nL : Nat} {own : String} {k pc : Nat} {L S : List Value} {h : rb_H} (X : rb_CX Z G cc nL own k) {i : Nat} {v : Int32} (d : decode cc pc = .ok (.ldc i, 2)) (w : Cond.constant own i v ∈ lw_tbl) (kk : rb_WP Z G nL (pc + 2) L (.int v :: S) h) : rb_WP Z G nL pc L (S) h := by
  obtain ⟨p, l, e, R, s, m, args, below, meth, c, A, cells, slots, Q⟩ := Z
  obtain ⟨hx, hb, hml, hown, hsw, hA, hA2, hf, hlo, hce, hso⟩ := X
  intro H locs ls hP hS hl
  exact lv_ldc hx hb hown (hsw.1.use w rfl _) d (kk H locs ls hP hS hl)
theorem rb_ldcw {Z : rb_Z} {G : rb_G} {cc : ByteArray} {nL : Nat} {own : String} {k pc : Nat} {L S : List Value} {h : rb_H} (X : rb_CX Z G cc nL own k) {i : Nat} {v : Int32} (d : decode cc pc = .ok (.ldc_w i, 3)) (w : Cond.constant own i v ∈ lw_tbl) (kk : rb_WP Z G nL (pc + 3) L (.int v :: S) h) : rb_WP Z G nL pc L (S) h := by
  obtain ⟨p, l, e, R, s, m, args, below, meth, c, A, cells, slots, Q⟩ := Z
  obtain ⟨hx, hb, hml, hown, hsw, hA, hA2, hf, hlo, hce, hso⟩ := X
  intro H locs ls hP hS hl
  exact lv_ldcw hx hb hown (hsw.1.use w rfl _) d (kk H locs ls hP hS hl)
theorem rb_ldc2 {Z : rb_Z} {G : rb_G} {cc : ByteArray} {nL : Nat} {own : String} {k pc : Nat} {L S : List Value} {h : rb_H} (X : rb_CX Z G cc nL own k) {i : Nat} {v : Int64} (d : decode cc pc = .ok (.ldc2_w i, 3)) (w : Cond.constantLong own i v ∈ lw_tbl) (kk : rb_WP Z G nL (pc + 3) L (.long v :: S) h) : rb_WP Z G nL pc L (S) h := by
  obtain ⟨p, l, e, R, s, m, args, below, meth, c, A, cells, slots, Q⟩ := Z
  obtain ⟨hx, hb, hml, hown, hsw, hA, hA2, hf, hlo, hce, hso⟩ := X
  intro H locs ls hP hS hl
  exact lv_ldc2 hx hb hown (hsw.1.use w rfl _) d (kk H locs ls hP hS hl)
theorem rb_ldcS {Z : rb_Z} {G : rb_G} {cc : ByteArray} {nL : Nat} {own : String} {k pc : Nat} {L S : List Value} {h : rb_H} (X : rb_CX Z G cc nL own k) (i : Nat) {ix : Nat} (hi : i < 14) (hi2 : (rb_tx i).1 = own) (hi3 : (rb_tx i).2.1 = ix) (d : decode cc pc = .ok (.ldc ix, 2)) (kk : rb_WP Z G nL (pc + 2) L (.ref (G.2.2.2.1 i) :: S) h) : rb_WP Z G nL pc L (S) h := by
  obtain ⟨p, l, e, R, s, m, args, below, meth, c, A, cells, slots, Q⟩ := Z
  obtain ⟨hx, hb, hml, hown, hsw, hA, hA2, hf, hlo, hce, hso⟩ := X
  intro H locs ls hP hS hl
  exact va_ldcS (tx := (rb_tx i).2.2.1) hx hb hown (by rw [← hi2, ← hi3]; exact hsw.2.2.2.2.1 i hi) d (kk H locs ls hP hS hl)
theorem rb_iload_n {Z : rb_Z} {G : rb_G} {cc : ByteArray} {nL : Nat} {own : String} {k pc : Nat} {L S : List Value} {h : rb_H} (X : rb_CX Z G cc nL own k) {q : Fin 4} {i : Nat} {x : Int32} (d : decode cc pc = .ok (.iload_n q, 1)) (hi : (q : Nat) = i) (hL : L[i]? = some (.int x)) (kk : rb_WP Z G nL (pc + 1) L (.int x :: S) h) : rb_WP Z G nL pc L (S) h := by
  obtain ⟨p, l, e, R, s, m, args, below, meth, c, A, cells, slots, Q⟩ := Z
  obtain ⟨hx, hb, hml, hown, hsw, hA, hA2, hf, hlo, hce, hso⟩ := X
  intro H locs ls hP hS hl
  exact lv_iload_n hx hb d hi (rb_HL.at hl hL (by simp)) (kk H locs ls hP hS hl)
theorem rb_iload {Z : rb_Z} {G : rb_G} {cc : ByteArray} {nL : Nat} {own : String} {k pc : Nat} {L S : List Value} {h : rb_H} (X : rb_CX Z G cc nL own k) {i : Nat} {x : Int32} (d : decode cc pc = .ok (.iload i, 2)) (hL : L[i]? = some (.int x)) (kk : rb_WP Z G nL (pc + 2) L (.int x :: S) h) : rb_WP Z G nL pc L (S) h := by
  obtain ⟨p, l, e, R, s, m, args, below, meth, c, A, cells, slots, Q⟩ := Z
  obtain ⟨hx, hb, hml, hown, hsw, hA, hA2, hf, hlo, hce, hso⟩ := X
  intro H locs ls hP hS hl
  exact lv_iload hx hb d (rb_HL.at hl hL (by simp)) (kk H locs ls hP hS hl)
theorem rb_lload_n {Z : rb_Z} {G : rb_G} {cc : ByteArray} {nL : Nat} {own : String} {k pc : Nat} {L S : List Value} {h : rb_H} (X : rb_CX Z G cc nL own k) {q : Fin 4} {i : Nat} {x : Int64} (d : decode cc pc = .ok (.lload_n q, 1)) (hi : (q : Nat) = i) (hL : L[i]? = some (.long x)) (kk : rb_WP Z G nL (pc + 1) L (.long x :: S) h) : rb_WP Z G nL pc L (S) h := by
  obtain ⟨p, l, e, R, s, m, args, below, meth, c, A, cells, slots, Q⟩ := Z
  obtain ⟨hx, hb, hml, hown, hsw, hA, hA2, hf, hlo, hce, hso⟩ := X
  intro H locs ls hP hS hl
  exact lv_lload_n hx hb d hi (rb_HL.at hl hL (by simp)) (kk H locs ls hP hS hl)
theorem rb_lload {Z : rb_Z} {G : rb_G} {cc : ByteArray} {nL : Nat} {own : String} {k pc : Nat} {L S : List Value} {h : rb_H} (X : rb_CX Z G cc nL own k) {i : Nat} {x : Int64} (d : decode cc pc = .ok (.lload i, 2)) (hL : L[i]? = some (.long x)) (kk : rb_WP Z G nL (pc + 2) L (.long x :: S) h) : rb_WP Z G nL pc L (S) h := by
  obtain ⟨p, l, e, R, s, m, args, below, meth, c, A, cells, slots, Q⟩ := Z
  obtain ⟨hx, hb, hml, hown, hsw, hA, hA2, hf, hlo, hce, hso⟩ := X
  intro H locs ls hP hS hl
  exact lv_lload hx hb d (rb_HL.at hl hL (by simp)) (kk H locs ls hP hS hl)
theorem rb_aload_n {Z : rb_Z} {G : rb_G} {cc : ByteArray} {nL : Nat} {own : String} {k pc : Nat} {L S : List Value} {h : rb_H} (X : rb_CX Z G cc nL own k) {q : Fin 4} {i : Nat} {x : Nat} (d : decode cc pc = .ok (.aload_n q, 1)) (hi : (q : Nat) = i) (hL : L[i]? = some (.ref x)) (kk : rb_WP Z G nL (pc + 1) L (.ref x :: S) h) : rb_WP Z G nL pc L (S) h := by
  obtain ⟨p, l, e, R, s, m, args, below, meth, c, A, cells, slots, Q⟩ := Z
  obtain ⟨hx, hb, hml, hown, hsw, hA, hA2, hf, hlo, hce, hso⟩ := X
  intro H locs ls hP hS hl
  exact lv_aload_n hx hb d hi (rb_HL.at hl hL (by simp)) (kk H locs ls hP hS hl)
theorem rb_aload {Z : rb_Z} {G : rb_G} {cc : ByteArray} {nL : Nat} {own : String} {k pc : Nat} {L S : List Value} {h : rb_H} (X : rb_CX Z G cc nL own k) {i : Nat} {x : Nat} (d : decode cc pc = .ok (.aload i, 2)) (hL : L[i]? = some (.ref x)) (kk : rb_WP Z G nL (pc + 2) L (.ref x :: S) h) : rb_WP Z G nL pc L (S) h := by
  obtain ⟨p, l, e, R, s, m, args, below, meth, c, A, cells, slots, Q⟩ := Z
  obtain ⟨hx, hb, hml, hown, hsw, hA, hA2, hf, hlo, hce, hso⟩ := X
  intro H locs ls hP hS hl
  exact lv_aload hx hb d (rb_HL.at hl hL (by simp)) (kk H locs ls hP hS hl)
theorem rb_istore_n {Z : rb_Z} {G : rb_G} {cc : ByteArray} {nL : Nat} {own : String} {k pc : Nat} {L S : List Value} {h : rb_H} (X : rb_CX Z G cc nL own k) {q : Fin 4} {i : Nat} {x : Int32} {L2 : List Value} (d : decode cc pc = .ok (.istore_n q, 1)) (hi : (q : Nat) = i) (hn : i < nL) (ho : rb_ok1 L i = true) (h2 : L.set i (.int x) = L2) (kk : rb_WP Z G nL (pc + 1) L2 (S) h) : rb_WP Z G nL pc L (.int x :: S) h := by
  obtain ⟨p, l, e, R, s, m, args, below, meth, c, A, cells, slots, Q⟩ := Z
  obtain ⟨hx, hb, hml, hown, hsw, hA, hA2, hf, hlo, hce, hso⟩ := X
  intro H locs ls hP hS hl
  exact lv_istore_n hx hb d hi hl hn rfl (fun ls1 hl1 => kk H locs ls1 hP hS (h2 ▸ rb_HL.set1 ho hl1))
theorem rb_istore {Z : rb_Z} {G : rb_G} {cc : ByteArray} {nL : Nat} {own : String} {k pc : Nat} {L S : List Value} {h : rb_H} (X : rb_CX Z G cc nL own k) {i : Nat} {x : Int32} {L2 : List Value} (d : decode cc pc = .ok (.istore i, 2)) (hn : i < nL) (ho : rb_ok1 L i = true) (h2 : L.set i (.int x) = L2) (kk : rb_WP Z G nL (pc + 2) L2 (S) h) : rb_WP Z G nL pc L (.int x :: S) h := by
  obtain ⟨p, l, e, R, s, m, args, below, meth, c, A, cells, slots, Q⟩ := Z
  obtain ⟨hx, hb, hml, hown, hsw, hA, hA2, hf, hlo, hce, hso⟩ := X
  intro H locs ls hP hS hl
  exact lv_istore hx hb d hl hn rfl (fun ls1 hl1 => kk H locs ls1 hP hS (h2 ▸ rb_HL.set1 ho hl1))
theorem rb_astore_n {Z : rb_Z} {G : rb_G} {cc : ByteArray} {nL : Nat} {own : String} {k pc : Nat} {L S : List Value} {h : rb_H} (X : rb_CX Z G cc nL own k) {q : Fin 4} {i : Nat} {x : Nat} {L2 : List Value} (d : decode cc pc = .ok (.astore_n q, 1)) (hi : (q : Nat) = i) (hn : i < nL) (ho : rb_ok1 L i = true) (h2 : L.set i (.ref x) = L2) (kk : rb_WP Z G nL (pc + 1) L2 (S) h) : rb_WP Z G nL pc L (.ref x :: S) h := by
  obtain ⟨p, l, e, R, s, m, args, below, meth, c, A, cells, slots, Q⟩ := Z
  obtain ⟨hx, hb, hml, hown, hsw, hA, hA2, hf, hlo, hce, hso⟩ := X
  intro H locs ls hP hS hl
  exact lv_astore_n hx hb d hi hl hn rfl (fun ls1 hl1 => kk H locs ls1 hP hS (h2 ▸ rb_HL.set1 ho hl1))
theorem rb_astore {Z : rb_Z} {G : rb_G} {cc : ByteArray} {nL : Nat} {own : String} {k pc : Nat} {L S : List Value} {h : rb_H} (X : rb_CX Z G cc nL own k) {i : Nat} {x : Nat} {L2 : List Value} (d : decode cc pc = .ok (.astore i, 2)) (hn : i < nL) (ho : rb_ok1 L i = true) (h2 : L.set i (.ref x) = L2) (kk : rb_WP Z G nL (pc + 2) L2 (S) h) : rb_WP Z G nL pc L (.ref x :: S) h := by
  obtain ⟨p, l, e, R, s, m, args, below, meth, c, A, cells, slots, Q⟩ := Z
  obtain ⟨hx, hb, hml, hown, hsw, hA, hA2, hf, hlo, hce, hso⟩ := X
  intro H locs ls hP hS hl
  exact lv_astore hx hb d hl hn rfl (fun ls1 hl1 => kk H locs ls1 hP hS (h2 ▸ rb_HL.set1 ho hl1))
theorem rb_lstore_n {Z : rb_Z} {G : rb_G} {cc : ByteArray} {nL : Nat} {own : String} {k pc : Nat} {L S : List Value} {h : rb_H} (X : rb_CX Z G cc nL own k) {q : Fin 4} {i : Nat} {x : Int64} {L2 : List Value} (d : decode cc pc = .ok (.lstore_n q, 1)) (hi : (q : Nat) = i) (hn : i + 1 < nL) (ho : rb_ok1 L i = true) (h2 : (L.set i (.long x)).set (i + 1) .null = L2) (kk : rb_WP Z G nL (pc + 1) L2 (S) h) : rb_WP Z G nL pc L (.long x :: S) h := by
  obtain ⟨p, l, e, R, s, m, args, below, meth, c, A, cells, slots, Q⟩ := Z
  obtain ⟨hx, hb, hml, hown, hsw, hA, hA2, hf, hlo, hce, hso⟩ := X
  intro H locs ls hP hS hl
  exact lv_lstore_n hx hb d hi hl hn rfl (fun ls1 hl1 => kk H locs ls1 hP hS (h2 ▸ rb_HL.set2 ho hl1))
theorem rb_lstore {Z : rb_Z} {G : rb_G} {cc : ByteArray} {nL : Nat} {own : String} {k pc : Nat} {L S : List Value} {h : rb_H} (X : rb_CX Z G cc nL own k) {i : Nat} {x : Int64} {L2 : List Value} (d : decode cc pc = .ok (.lstore i, 2)) (hn : i + 1 < nL) (ho : rb_ok1 L i = true) (h2 : (L.set i (.long x)).set (i + 1) .null = L2) (kk : rb_WP Z G nL (pc + 2) L2 (S) h) : rb_WP Z G nL pc L (.long x :: S) h := by
  obtain ⟨p, l, e, R, s, m, args, below, meth, c, A, cells, slots, Q⟩ := Z
  obtain ⟨hx, hb, hml, hown, hsw, hA, hA2, hf, hlo, hce, hso⟩ := X
  intro H locs ls hP hS hl
  exact lv_lstore hx hb d hl hn rfl (fun ls1 hl1 => kk H locs ls1 hP hS (h2 ▸ rb_HL.set2 ho hl1))
theorem rb_iinc {Z : rb_Z} {G : rb_G} {cc : ByteArray} {nL : Nat} {own : String} {k pc : Nat} {L S : List Value} {h : rb_H} (X : rb_CX Z G cc nL own k) {i : Nat} {n : Int} {x v : Int32} {L2 : List Value} (d : decode cc pc = .ok (.iinc i n, 3)) (hL : L[i]? = some (.int x)) (hv : x + Int32.ofInt n = v) (hn : i < nL) (ho : rb_ok1 L i = true) (h2 : L.set i (.int v) = L2) (kk : rb_WP Z G nL (pc + 3) L2 (S) h) : rb_WP Z G nL pc L S h := by
  obtain ⟨p, l, e, R, s, m, args, below, meth, c, A, cells, slots, Q⟩ := Z
  obtain ⟨hx, hb, hml, hown, hsw, hA, hA2, hf, hlo, hce, hso⟩ := X
  intro H locs ls hP hS hl
  obtain ⟨q, hq⟩ := List.getElem?_of_mem ((rb_pr_mem L 0 (i, .int x)).mpr ⟨i, by simp, hL, by simp⟩)
  exact lv_iinc hx hb d hl hq hv hn rfl (fun ls1 hl1 => kk H locs ls1 hP hS (h2 ▸ rb_HL.set1 ho hl1))
theorem rb_iadd {Z : rb_Z} {G : rb_G} {cc : ByteArray} {nL : Nat} {own : String} {k pc : Nat} {L S : List Value} {h : rb_H} (X : rb_CX Z G cc nL own k) {x y : Int32} (d : decode cc pc = .ok (.iadd, 1)) (kk : rb_WP Z G nL (pc + 1) L (.int (x + y) :: S) h) : rb_WP Z G nL pc L (.int y :: .int x :: S) h := by
  obtain ⟨p, l, e, R, s, m, args, below, meth, c, A, cells, slots, Q⟩ := Z
  obtain ⟨hx, hb, hml, hown, hsw, hA, hA2, hf, hlo, hce, hso⟩ := X
  intro H locs ls hP hS hl
  exact lv_iadd hx hb d (kk H locs ls hP hS hl)
theorem rb_isub {Z : rb_Z} {G : rb_G} {cc : ByteArray} {nL : Nat} {own : String} {k pc : Nat} {L S : List Value} {h : rb_H} (X : rb_CX Z G cc nL own k) {x y : Int32} (d : decode cc pc = .ok (.isub, 1)) (kk : rb_WP Z G nL (pc + 1) L (.int (x - y) :: S) h) : rb_WP Z G nL pc L (.int y :: .int x :: S) h := by
  obtain ⟨p, l, e, R, s, m, args, below, meth, c, A, cells, slots, Q⟩ := Z
  obtain ⟨hx, hb, hml, hown, hsw, hA, hA2, hf, hlo, hce, hso⟩ := X
  intro H locs ls hP hS hl
  exact lv_isub hx hb d (kk H locs ls hP hS hl)
theorem rb_imul {Z : rb_Z} {G : rb_G} {cc : ByteArray} {nL : Nat} {own : String} {k pc : Nat} {L S : List Value} {h : rb_H} (X : rb_CX Z G cc nL own k) {x y : Int32} (d : decode cc pc = .ok (.imul, 1)) (kk : rb_WP Z G nL (pc + 1) L (.int (x * y) :: S) h) : rb_WP Z G nL pc L (.int y :: .int x :: S) h := by
  obtain ⟨p, l, e, R, s, m, args, below, meth, c, A, cells, slots, Q⟩ := Z
  obtain ⟨hx, hb, hml, hown, hsw, hA, hA2, hf, hlo, hce, hso⟩ := X
  intro H locs ls hP hS hl
  exact lv_imul hx hb d (kk H locs ls hP hS hl)
theorem rb_iand {Z : rb_Z} {G : rb_G} {cc : ByteArray} {nL : Nat} {own : String} {k pc : Nat} {L S : List Value} {h : rb_H} (X : rb_CX Z G cc nL own k) {x y : Int32} (d : decode cc pc = .ok (.iand, 1)) (kk : rb_WP Z G nL (pc + 1) L (.int (x &&& y) :: S) h) : rb_WP Z G nL pc L (.int y :: .int x :: S) h := by
  obtain ⟨p, l, e, R, s, m, args, below, meth, c, A, cells, slots, Q⟩ := Z
  obtain ⟨hx, hb, hml, hown, hsw, hA, hA2, hf, hlo, hce, hso⟩ := X
  intro H locs ls hP hS hl
  exact lv_iand hx hb d (kk H locs ls hP hS hl)
theorem rb_ior {Z : rb_Z} {G : rb_G} {cc : ByteArray} {nL : Nat} {own : String} {k pc : Nat} {L S : List Value} {h : rb_H} (X : rb_CX Z G cc nL own k) {x y : Int32} (d : decode cc pc = .ok (.ior, 1)) (kk : rb_WP Z G nL (pc + 1) L (.int (x ||| y) :: S) h) : rb_WP Z G nL pc L (.int y :: .int x :: S) h := by
  obtain ⟨p, l, e, R, s, m, args, below, meth, c, A, cells, slots, Q⟩ := Z
  obtain ⟨hx, hb, hml, hown, hsw, hA, hA2, hf, hlo, hce, hso⟩ := X
  intro H locs ls hP hS hl
  exact lv_ior hx hb d (kk H locs ls hP hS hl)
theorem rb_ixor {Z : rb_Z} {G : rb_G} {cc : ByteArray} {nL : Nat} {own : String} {k pc : Nat} {L S : List Value} {h : rb_H} (X : rb_CX Z G cc nL own k) {x y : Int32} (d : decode cc pc = .ok (.ixor, 1)) (kk : rb_WP Z G nL (pc + 1) L (.int (x ^^^ y) :: S) h) : rb_WP Z G nL pc L (.int y :: .int x :: S) h := by
  obtain ⟨p, l, e, R, s, m, args, below, meth, c, A, cells, slots, Q⟩ := Z
  obtain ⟨hx, hb, hml, hown, hsw, hA, hA2, hf, hlo, hce, hso⟩ := X
  intro H locs ls hP hS hl
  exact lv_ixor hx hb d (kk H locs ls hP hS hl)
theorem rb_ishl {Z : rb_Z} {G : rb_G} {cc : ByteArray} {nL : Nat} {own : String} {k pc : Nat} {L S : List Value} {h : rb_H} (X : rb_CX Z G cc nL own k) {x y : Int32} (d : decode cc pc = .ok (.ishl, 1)) (kk : rb_WP Z G nL (pc + 1) L (.int (x <<< (y &&& 31)) :: S) h) : rb_WP Z G nL pc L (.int y :: .int x :: S) h := by
  obtain ⟨p, l, e, R, s, m, args, below, meth, c, A, cells, slots, Q⟩ := Z
  obtain ⟨hx, hb, hml, hown, hsw, hA, hA2, hf, hlo, hce, hso⟩ := X
  intro H locs ls hP hS hl
  exact lv_ishl hx hb d (kk H locs ls hP hS hl)
theorem rb_ishr {Z : rb_Z} {G : rb_G} {cc : ByteArray} {nL : Nat} {own : String} {k pc : Nat} {L S : List Value} {h : rb_H} (X : rb_CX Z G cc nL own k) {x y : Int32} (d : decode cc pc = .ok (.ishr, 1)) (kk : rb_WP Z G nL (pc + 1) L (.int (x >>> (y &&& 31)) :: S) h) : rb_WP Z G nL pc L (.int y :: .int x :: S) h := by
  obtain ⟨p, l, e, R, s, m, args, below, meth, c, A, cells, slots, Q⟩ := Z
  obtain ⟨hx, hb, hml, hown, hsw, hA, hA2, hf, hlo, hce, hso⟩ := X
  intro H locs ls hP hS hl
  exact lv_ishr hx hb d (kk H locs ls hP hS hl)
theorem rb_idiv {Z : rb_Z} {G : rb_G} {cc : ByteArray} {nL : Nat} {own : String} {k pc : Nat} {L S : List Value} {h : rb_H} (X : rb_CX Z G cc nL own k) {x y : Int32} (d : decode cc pc = .ok (.idiv, 1)) (hne : ¬ y = 0) (kk : rb_WP Z G nL (pc + 1) L (.int (x / y) :: S) h) : rb_WP Z G nL pc L (.int y :: .int x :: S) h := by
  obtain ⟨p, l, e, R, s, m, args, below, meth, c, A, cells, slots, Q⟩ := Z
  obtain ⟨hx, hb, hml, hown, hsw, hA, hA2, hf, hlo, hce, hso⟩ := X
  intro H locs ls hP hS hl
  exact lv_idiv hx hb d hne (kk H locs ls hP hS hl)
theorem rb_irem {Z : rb_Z} {G : rb_G} {cc : ByteArray} {nL : Nat} {own : String} {k pc : Nat} {L S : List Value} {h : rb_H} (X : rb_CX Z G cc nL own k) {x y : Int32} (d : decode cc pc = .ok (.irem, 1)) (hne : ¬ y = 0) (kk : rb_WP Z G nL (pc + 1) L (.int (x - x / y * y) :: S) h) : rb_WP Z G nL pc L (.int y :: .int x :: S) h := by
  obtain ⟨p, l, e, R, s, m, args, below, meth, c, A, cells, slots, Q⟩ := Z
  obtain ⟨hx, hb, hml, hown, hsw, hA, hA2, hf, hlo, hce, hso⟩ := X
  intro H locs ls hP hS hl
  exact lv_irem hx hb d hne (kk H locs ls hP hS hl)
theorem rb_ladd {Z : rb_Z} {G : rb_G} {cc : ByteArray} {nL : Nat} {own : String} {k pc : Nat} {L S : List Value} {h : rb_H} (X : rb_CX Z G cc nL own k) {x y : Int64} (d : decode cc pc = .ok (.ladd, 1)) (kk : rb_WP Z G nL (pc + 1) L (.long (x + y) :: S) h) : rb_WP Z G nL pc L (.long y :: .long x :: S) h := by
  obtain ⟨p, l, e, R, s, m, args, below, meth, c, A, cells, slots, Q⟩ := Z
  obtain ⟨hx, hb, hml, hown, hsw, hA, hA2, hf, hlo, hce, hso⟩ := X
  intro H locs ls hP hS hl
  exact lv_ladd hx hb d (kk H locs ls hP hS hl)
theorem rb_lsub {Z : rb_Z} {G : rb_G} {cc : ByteArray} {nL : Nat} {own : String} {k pc : Nat} {L S : List Value} {h : rb_H} (X : rb_CX Z G cc nL own k) {x y : Int64} (d : decode cc pc = .ok (.lsub, 1)) (kk : rb_WP Z G nL (pc + 1) L (.long (x - y) :: S) h) : rb_WP Z G nL pc L (.long y :: .long x :: S) h := by
  obtain ⟨p, l, e, R, s, m, args, below, meth, c, A, cells, slots, Q⟩ := Z
  obtain ⟨hx, hb, hml, hown, hsw, hA, hA2, hf, hlo, hce, hso⟩ := X
  intro H locs ls hP hS hl
  exact lv_lsub hx hb d (kk H locs ls hP hS hl)
theorem rb_lmul {Z : rb_Z} {G : rb_G} {cc : ByteArray} {nL : Nat} {own : String} {k pc : Nat} {L S : List Value} {h : rb_H} (X : rb_CX Z G cc nL own k) {x y : Int64} (d : decode cc pc = .ok (.lmul, 1)) (kk : rb_WP Z G nL (pc + 1) L (.long (x * y) :: S) h) : rb_WP Z G nL pc L (.long y :: .long x :: S) h := by
  obtain ⟨p, l, e, R, s, m, args, below, meth, c, A, cells, slots, Q⟩ := Z
  obtain ⟨hx, hb, hml, hown, hsw, hA, hA2, hf, hlo, hce, hso⟩ := X
  intro H locs ls hP hS hl
  exact lv_lmul hx hb d (kk H locs ls hP hS hl)
theorem rb_land {Z : rb_Z} {G : rb_G} {cc : ByteArray} {nL : Nat} {own : String} {k pc : Nat} {L S : List Value} {h : rb_H} (X : rb_CX Z G cc nL own k) {x y : Int64} (d : decode cc pc = .ok (.land, 1)) (kk : rb_WP Z G nL (pc + 1) L (.long (x &&& y) :: S) h) : rb_WP Z G nL pc L (.long y :: .long x :: S) h := by
  obtain ⟨p, l, e, R, s, m, args, below, meth, c, A, cells, slots, Q⟩ := Z
  obtain ⟨hx, hb, hml, hown, hsw, hA, hA2, hf, hlo, hce, hso⟩ := X
  intro H locs ls hP hS hl
  exact lv_land hx hb d (kk H locs ls hP hS hl)
theorem rb_lor {Z : rb_Z} {G : rb_G} {cc : ByteArray} {nL : Nat} {own : String} {k pc : Nat} {L S : List Value} {h : rb_H} (X : rb_CX Z G cc nL own k) {x y : Int64} (d : decode cc pc = .ok (.lor, 1)) (kk : rb_WP Z G nL (pc + 1) L (.long (x ||| y) :: S) h) : rb_WP Z G nL pc L (.long y :: .long x :: S) h := by
  obtain ⟨p, l, e, R, s, m, args, below, meth, c, A, cells, slots, Q⟩ := Z
  obtain ⟨hx, hb, hml, hown, hsw, hA, hA2, hf, hlo, hce, hso⟩ := X
  intro H locs ls hP hS hl
  exact lv_lor hx hb d (kk H locs ls hP hS hl)
theorem rb_lcmp {Z : rb_Z} {G : rb_G} {cc : ByteArray} {nL : Nat} {own : String} {k pc : Nat} {L S : List Value} {h : rb_H} (X : rb_CX Z G cc nL own k) {x y : Int64} (d : decode cc pc = .ok (.lcmp, 1)) (kk : rb_WP Z G nL (pc + 1) L (.int (lg_cmp x y) :: S) h) : rb_WP Z G nL pc L (.long y :: .long x :: S) h := by
  obtain ⟨p, l, e, R, s, m, args, below, meth, c, A, cells, slots, Q⟩ := Z
  obtain ⟨hx, hb, hml, hown, hsw, hA, hA2, hf, hlo, hce, hso⟩ := X
  intro H locs ls hP hS hl
  exact W.lcmp hx hb d (kk H locs ls hP hS hl)
theorem rb_lshl {Z : rb_Z} {G : rb_G} {cc : ByteArray} {nL : Nat} {own : String} {k pc : Nat} {L S : List Value} {h : rb_H} (X : rb_CX Z G cc nL own k) {x : Int64} {y : Int32} (d : decode cc pc = .ok (.lshl, 1)) (kk : rb_WP Z G nL (pc + 1) L (.long (x <<< (y.toInt64 &&& 63)) :: S) h) : rb_WP Z G nL pc L (.int y :: .long x :: S) h := by
  obtain ⟨p, l, e, R, s, m, args, below, meth, c, A, cells, slots, Q⟩ := Z
  obtain ⟨hx, hb, hml, hown, hsw, hA, hA2, hf, hlo, hce, hso⟩ := X
  intro H locs ls hP hS hl
  exact lv_lshl hx hb d rfl (kk H locs ls hP hS hl)
theorem rb_iushr {Z : rb_Z} {G : rb_G} {cc : ByteArray} {nL : Nat} {own : String} {k pc : Nat} {L S : List Value} {h : rb_H} (X : rb_CX Z G cc nL own k) {x y : Int32} (d : decode cc pc = .ok (.iushr, 1)) (kk : rb_WP Z G nL (pc + 1) L (.int ((x.toUInt32 >>> (y.toUInt32 &&& Int32.toUInt32 31)).toInt32) :: S) h) : rb_WP Z G nL pc L (.int y :: .int x :: S) h := by
  obtain ⟨p, l, e, R, s, m, args, below, meth, c, A, cells, slots, Q⟩ := Z
  obtain ⟨hx, hb, hml, hown, hsw, hA, hA2, hf, hlo, hce, hso⟩ := X
  intro H locs ls hP hS hl
  exact lv_iushr hx hb d rfl (kk H locs ls hP hS hl)
theorem rb_i2l {Z : rb_Z} {G : rb_G} {cc : ByteArray} {nL : Nat} {own : String} {k pc : Nat} {L S : List Value} {h : rb_H} (X : rb_CX Z G cc nL own k) {x : Int32} (d : decode cc pc = .ok (.i2l, 1)) (kk : rb_WP Z G nL (pc + 1) L (.long (x.toInt64) :: S) h) : rb_WP Z G nL pc L (.int x :: S) h := by
  obtain ⟨p, l, e, R, s, m, args, below, meth, c, A, cells, slots, Q⟩ := Z
  obtain ⟨hx, hb, hml, hown, hsw, hA, hA2, hf, hlo, hce, hso⟩ := X
  intro H locs ls hP hS hl
  exact lv_i2l hx hb d rfl (kk H locs ls hP hS hl)
theorem rb_l2i {Z : rb_Z} {G : rb_G} {cc : ByteArray} {nL : Nat} {own : String} {k pc : Nat} {L S : List Value} {h : rb_H} (X : rb_CX Z G cc nL own k) {x : Int64} (d : decode cc pc = .ok (.l2i, 1)) (kk : rb_WP Z G nL (pc + 1) L (.int (x.toInt32) :: S) h) : rb_WP Z G nL pc L (.long x :: S) h := by
  obtain ⟨p, l, e, R, s, m, args, below, meth, c, A, cells, slots, Q⟩ := Z
  obtain ⟨hx, hb, hml, hown, hsw, hA, hA2, hf, hlo, hce, hso⟩ := X
  intro H locs ls hP hS hl
  exact lv_l2i hx hb d rfl (kk H locs ls hP hS hl)
theorem rb_i2b {Z : rb_Z} {G : rb_G} {cc : ByteArray} {nL : Nat} {own : String} {k pc : Nat} {L S : List Value} {h : rb_H} (X : rb_CX Z G cc nL own k) {x : Int32} (d : decode cc pc = .ok (.i2b, 1)) (kk : rb_WP Z G nL (pc + 1) L (.int (x.toInt8.toInt32) :: S) h) : rb_WP Z G nL pc L (.int x :: S) h := by
  obtain ⟨p, l, e, R, s, m, args, below, meth, c, A, cells, slots, Q⟩ := Z
  obtain ⟨hx, hb, hml, hown, hsw, hA, hA2, hf, hlo, hce, hso⟩ := X
  intro H locs ls hP hS hl
  exact lv_i2b hx hb d rfl (kk H locs ls hP hS hl)
theorem rb_i2s {Z : rb_Z} {G : rb_G} {cc : ByteArray} {nL : Nat} {own : String} {k pc : Nat} {L S : List Value} {h : rb_H} (X : rb_CX Z G cc nL own k) {x : Int32} (d : decode cc pc = .ok (.i2s, 1)) (kk : rb_WP Z G nL (pc + 1) L (.int (x.toInt16.toInt32) :: S) h) : rb_WP Z G nL pc L (.int x :: S) h := by
  obtain ⟨p, l, e, R, s, m, args, below, meth, c, A, cells, slots, Q⟩ := Z
  obtain ⟨hx, hb, hml, hown, hsw, hA, hA2, hf, hlo, hce, hso⟩ := X
  intro H locs ls hP hS hl
  exact lv_i2s hx hb d rfl (kk H locs ls hP hS hl)
theorem rb_i2c {Z : rb_Z} {G : rb_G} {cc : ByteArray} {nL : Nat} {own : String} {k pc : Nat} {L S : List Value} {h : rb_H} (X : rb_CX Z G cc nL own k) {x : Int32} (d : decode cc pc = .ok (.i2c, 1)) (kk : rb_WP Z G nL (pc + 1) L (.int ((x.toUInt32 % 65536).toInt32) :: S) h) : rb_WP Z G nL pc L (.int x :: S) h := by
  obtain ⟨p, l, e, R, s, m, args, below, meth, c, A, cells, slots, Q⟩ := Z
  obtain ⟨hx, hb, hml, hown, hsw, hA, hA2, hf, hlo, hce, hso⟩ := X
  intro H locs ls hP hS hl
  exact lv_i2c hx hb d rfl (kk H locs ls hP hS hl)
theorem rb_dup {Z : rb_Z} {G : rb_G} {cc : ByteArray} {nL : Nat} {own : String} {k pc : Nat} {L S : List Value} {h : rb_H} (X : rb_CX Z G cc nL own k) {v : Value} (d : decode cc pc = .ok (.dup, 1)) (hv : v.category = 1) (kk : rb_WP Z G nL (pc + 1) L (v :: v :: S) h) : rb_WP Z G nL pc L (v :: S) h := by
  obtain ⟨p, l, e, R, s, m, args, below, meth, c, A, cells, slots, Q⟩ := Z
  obtain ⟨hx, hb, hml, hown, hsw, hA, hA2, hf, hlo, hce, hso⟩ := X
  intro H locs ls hP hS hl
  exact lv_dup hx hb d hv (kk H locs ls hP hS hl)
theorem rb_pop {Z : rb_Z} {G : rb_G} {cc : ByteArray} {nL : Nat} {own : String} {k pc : Nat} {L S : List Value} {h : rb_H} (X : rb_CX Z G cc nL own k) {v : Value} (d : decode cc pc = .ok (.pop, 1)) (hv : v.category = 1) (kk : rb_WP Z G nL (pc + 1) L (S) h) : rb_WP Z G nL pc L (v :: S) h := by
  obtain ⟨p, l, e, R, s, m, args, below, meth, c, A, cells, slots, Q⟩ := Z
  obtain ⟨hx, hb, hml, hown, hsw, hA, hA2, hf, hlo, hce, hso⟩ := X
  intro H locs ls hP hS hl
  exact lv_pop hx hb d hv (kk H locs ls hP hS hl)
theorem rb_dup2 {Z : rb_Z} {G : rb_G} {cc : ByteArray} {nL : Nat} {own : String} {k pc : Nat} {L S : List Value} {h : rb_H} (X : rb_CX Z G cc nL own k) {v w : Value} (d : decode cc pc = .ok (.dup2, 1)) (hv : v.category = 1) (hw : w.category = 1) (kk : rb_WP Z G nL (pc + 1) L (v :: w :: v :: w :: S) h) : rb_WP Z G nL pc L (v :: w :: S) h := by
  obtain ⟨p, l, e, R, s, m, args, below, meth, c, A, cells, slots, Q⟩ := Z
  obtain ⟨hx, hb, hml, hown, hsw, hA, hA2, hf, hlo, hce, hso⟩ := X
  intro H locs ls hP hS hl
  exact lv_dup2_11 hx hb d hv hw (kk H locs ls hP hS hl)
theorem rb_if_eq {Z : rb_Z} {G : rb_G} {cc : ByteArray} {nL : Nat} {own : String} {k pc : Nat} {L S : List Value} {h : rb_H} (X : rb_CX Z G cc nL own k) {x : Int32} {off : Int} {tgt : Nat} (d : decode cc pc = .ok (.ifCond .eq off, 3)) (ht : (pc : Int) + off = (tgt : Int)) (kt : (x = 0) → rb_WP Z G nL tgt L S h) (kf : (¬ x = 0) → rb_WP Z G nL (pc + 3) L (S) h) : rb_WP Z G nL pc L (.int x :: S) h := by
  obtain ⟨p, l, e, R, s, m, args, below, meth, c, A, cells, slots, Q⟩ := Z
  obtain ⟨hx, hb, hml, hown, hsw, hA, hA2, hf, hlo, hce, hso⟩ := X
  intro H locs ls hP hS hl
  exact lv_if_eq hx hb d ht (fun q => kt q H locs ls hP hS hl) (fun q => kf q H locs ls hP hS hl)
theorem rb_icmp_eq {Z : rb_Z} {G : rb_G} {cc : ByteArray} {nL : Nat} {own : String} {k pc : Nat} {L S : List Value} {h : rb_H} (X : rb_CX Z G cc nL own k) {x y : Int32} {off : Int} {tgt : Nat} (d : decode cc pc = .ok (.if_icmp .eq off, 3)) (ht : (pc : Int) + off = (tgt : Int)) (kt : (x = y) → rb_WP Z G nL tgt L S h) (kf : (¬ x = y) → rb_WP Z G nL (pc + 3) L (S) h) : rb_WP Z G nL pc L (.int y :: .int x :: S) h := by
  obtain ⟨p, l, e, R, s, m, args, below, meth, c, A, cells, slots, Q⟩ := Z
  obtain ⟨hx, hb, hml, hown, hsw, hA, hA2, hf, hlo, hce, hso⟩ := X
  intro H locs ls hP hS hl
  exact lv_icmp_eq hx hb d ht (fun q => kt q H locs ls hP hS hl) (fun q => kf q H locs ls hP hS hl)
theorem rb_if_ne {Z : rb_Z} {G : rb_G} {cc : ByteArray} {nL : Nat} {own : String} {k pc : Nat} {L S : List Value} {h : rb_H} (X : rb_CX Z G cc nL own k) {x : Int32} {off : Int} {tgt : Nat} (d : decode cc pc = .ok (.ifCond .ne off, 3)) (ht : (pc : Int) + off = (tgt : Int)) (kt : (¬ x = 0) → rb_WP Z G nL tgt L S h) (kf : (x = 0) → rb_WP Z G nL (pc + 3) L (S) h) : rb_WP Z G nL pc L (.int x :: S) h := by
  obtain ⟨p, l, e, R, s, m, args, below, meth, c, A, cells, slots, Q⟩ := Z
  obtain ⟨hx, hb, hml, hown, hsw, hA, hA2, hf, hlo, hce, hso⟩ := X
  intro H locs ls hP hS hl
  exact lv_if_ne hx hb d ht (fun q => kt q H locs ls hP hS hl) (fun q => kf q H locs ls hP hS hl)
theorem rb_icmp_ne {Z : rb_Z} {G : rb_G} {cc : ByteArray} {nL : Nat} {own : String} {k pc : Nat} {L S : List Value} {h : rb_H} (X : rb_CX Z G cc nL own k) {x y : Int32} {off : Int} {tgt : Nat} (d : decode cc pc = .ok (.if_icmp .ne off, 3)) (ht : (pc : Int) + off = (tgt : Int)) (kt : (¬ x = y) → rb_WP Z G nL tgt L S h) (kf : (x = y) → rb_WP Z G nL (pc + 3) L (S) h) : rb_WP Z G nL pc L (.int y :: .int x :: S) h := by
  obtain ⟨p, l, e, R, s, m, args, below, meth, c, A, cells, slots, Q⟩ := Z
  obtain ⟨hx, hb, hml, hown, hsw, hA, hA2, hf, hlo, hce, hso⟩ := X
  intro H locs ls hP hS hl
  exact lv_icmp_ne hx hb d ht (fun q => kt q H locs ls hP hS hl) (fun q => kf q H locs ls hP hS hl)
theorem rb_if_lt {Z : rb_Z} {G : rb_G} {cc : ByteArray} {nL : Nat} {own : String} {k pc : Nat} {L S : List Value} {h : rb_H} (X : rb_CX Z G cc nL own k) {x : Int32} {off : Int} {tgt : Nat} (d : decode cc pc = .ok (.ifCond .lt off, 3)) (ht : (pc : Int) + off = (tgt : Int)) (kt : (x < 0) → rb_WP Z G nL tgt L S h) (kf : (¬ x < 0) → rb_WP Z G nL (pc + 3) L (S) h) : rb_WP Z G nL pc L (.int x :: S) h := by
  obtain ⟨p, l, e, R, s, m, args, below, meth, c, A, cells, slots, Q⟩ := Z
  obtain ⟨hx, hb, hml, hown, hsw, hA, hA2, hf, hlo, hce, hso⟩ := X
  intro H locs ls hP hS hl
  exact lv_if_lt hx hb d ht (fun q => kt q H locs ls hP hS hl) (fun q => kf q H locs ls hP hS hl)
theorem rb_icmp_lt {Z : rb_Z} {G : rb_G} {cc : ByteArray} {nL : Nat} {own : String} {k pc : Nat} {L S : List Value} {h : rb_H} (X : rb_CX Z G cc nL own k) {x y : Int32} {off : Int} {tgt : Nat} (d : decode cc pc = .ok (.if_icmp .lt off, 3)) (ht : (pc : Int) + off = (tgt : Int)) (kt : (x < y) → rb_WP Z G nL tgt L S h) (kf : (¬ x < y) → rb_WP Z G nL (pc + 3) L (S) h) : rb_WP Z G nL pc L (.int y :: .int x :: S) h := by
  obtain ⟨p, l, e, R, s, m, args, below, meth, c, A, cells, slots, Q⟩ := Z
  obtain ⟨hx, hb, hml, hown, hsw, hA, hA2, hf, hlo, hce, hso⟩ := X
  intro H locs ls hP hS hl
  exact lv_icmp_lt hx hb d ht (fun q => kt q H locs ls hP hS hl) (fun q => kf q H locs ls hP hS hl)
theorem rb_if_ge {Z : rb_Z} {G : rb_G} {cc : ByteArray} {nL : Nat} {own : String} {k pc : Nat} {L S : List Value} {h : rb_H} (X : rb_CX Z G cc nL own k) {x : Int32} {off : Int} {tgt : Nat} (d : decode cc pc = .ok (.ifCond .ge off, 3)) (ht : (pc : Int) + off = (tgt : Int)) (kt : (0 ≤ x) → rb_WP Z G nL tgt L S h) (kf : (¬ 0 ≤ x) → rb_WP Z G nL (pc + 3) L (S) h) : rb_WP Z G nL pc L (.int x :: S) h := by
  obtain ⟨p, l, e, R, s, m, args, below, meth, c, A, cells, slots, Q⟩ := Z
  obtain ⟨hx, hb, hml, hown, hsw, hA, hA2, hf, hlo, hce, hso⟩ := X
  intro H locs ls hP hS hl
  exact lv_if_ge hx hb d ht (fun q => kt q H locs ls hP hS hl) (fun q => kf q H locs ls hP hS hl)
theorem rb_icmp_ge {Z : rb_Z} {G : rb_G} {cc : ByteArray} {nL : Nat} {own : String} {k pc : Nat} {L S : List Value} {h : rb_H} (X : rb_CX Z G cc nL own k) {x y : Int32} {off : Int} {tgt : Nat} (d : decode cc pc = .ok (.if_icmp .ge off, 3)) (ht : (pc : Int) + off = (tgt : Int)) (kt : (y ≤ x) → rb_WP Z G nL tgt L S h) (kf : (¬ y ≤ x) → rb_WP Z G nL (pc + 3) L (S) h) : rb_WP Z G nL pc L (.int y :: .int x :: S) h := by
  obtain ⟨p, l, e, R, s, m, args, below, meth, c, A, cells, slots, Q⟩ := Z
  obtain ⟨hx, hb, hml, hown, hsw, hA, hA2, hf, hlo, hce, hso⟩ := X
  intro H locs ls hP hS hl
  exact lv_icmp_ge hx hb d ht (fun q => kt q H locs ls hP hS hl) (fun q => kf q H locs ls hP hS hl)
theorem rb_if_gt {Z : rb_Z} {G : rb_G} {cc : ByteArray} {nL : Nat} {own : String} {k pc : Nat} {L S : List Value} {h : rb_H} (X : rb_CX Z G cc nL own k) {x : Int32} {off : Int} {tgt : Nat} (d : decode cc pc = .ok (.ifCond .gt off, 3)) (ht : (pc : Int) + off = (tgt : Int)) (kt : (0 < x) → rb_WP Z G nL tgt L S h) (kf : (¬ 0 < x) → rb_WP Z G nL (pc + 3) L (S) h) : rb_WP Z G nL pc L (.int x :: S) h := by
  obtain ⟨p, l, e, R, s, m, args, below, meth, c, A, cells, slots, Q⟩ := Z
  obtain ⟨hx, hb, hml, hown, hsw, hA, hA2, hf, hlo, hce, hso⟩ := X
  intro H locs ls hP hS hl
  exact lv_if_gt hx hb d ht (fun q => kt q H locs ls hP hS hl) (fun q => kf q H locs ls hP hS hl)
theorem rb_icmp_gt {Z : rb_Z} {G : rb_G} {cc : ByteArray} {nL : Nat} {own : String} {k pc : Nat} {L S : List Value} {h : rb_H} (X : rb_CX Z G cc nL own k) {x y : Int32} {off : Int} {tgt : Nat} (d : decode cc pc = .ok (.if_icmp .gt off, 3)) (ht : (pc : Int) + off = (tgt : Int)) (kt : (y < x) → rb_WP Z G nL tgt L S h) (kf : (¬ y < x) → rb_WP Z G nL (pc + 3) L (S) h) : rb_WP Z G nL pc L (.int y :: .int x :: S) h := by
  obtain ⟨p, l, e, R, s, m, args, below, meth, c, A, cells, slots, Q⟩ := Z
  obtain ⟨hx, hb, hml, hown, hsw, hA, hA2, hf, hlo, hce, hso⟩ := X
  intro H locs ls hP hS hl
  exact lv_icmp_gt hx hb d ht (fun q => kt q H locs ls hP hS hl) (fun q => kf q H locs ls hP hS hl)
theorem rb_if_le {Z : rb_Z} {G : rb_G} {cc : ByteArray} {nL : Nat} {own : String} {k pc : Nat} {L S : List Value} {h : rb_H} (X : rb_CX Z G cc nL own k) {x : Int32} {off : Int} {tgt : Nat} (d : decode cc pc = .ok (.ifCond .le off, 3)) (ht : (pc : Int) + off = (tgt : Int)) (kt : (x ≤ 0) → rb_WP Z G nL tgt L S h) (kf : (¬ x ≤ 0) → rb_WP Z G nL (pc + 3) L (S) h) : rb_WP Z G nL pc L (.int x :: S) h := by
  obtain ⟨p, l, e, R, s, m, args, below, meth, c, A, cells, slots, Q⟩ := Z
  obtain ⟨hx, hb, hml, hown, hsw, hA, hA2, hf, hlo, hce, hso⟩ := X
  intro H locs ls hP hS hl
  exact lv_if_le hx hb d ht (fun q => kt q H locs ls hP hS hl) (fun q => kf q H locs ls hP hS hl)
theorem rb_icmp_le {Z : rb_Z} {G : rb_G} {cc : ByteArray} {nL : Nat} {own : String} {k pc : Nat} {L S : List Value} {h : rb_H} (X : rb_CX Z G cc nL own k) {x y : Int32} {off : Int} {tgt : Nat} (d : decode cc pc = .ok (.if_icmp .le off, 3)) (ht : (pc : Int) + off = (tgt : Int)) (kt : (x ≤ y) → rb_WP Z G nL tgt L S h) (kf : (¬ x ≤ y) → rb_WP Z G nL (pc + 3) L (S) h) : rb_WP Z G nL pc L (.int y :: .int x :: S) h := by
  obtain ⟨p, l, e, R, s, m, args, below, meth, c, A, cells, slots, Q⟩ := Z
  obtain ⟨hx, hb, hml, hown, hsw, hA, hA2, hf, hlo, hce, hso⟩ := X
  intro H locs ls hP hS hl
  exact lv_icmp_le hx hb d ht (fun q => kt q H locs ls hP hS hl) (fun q => kf q H locs ls hP hS hl)
theorem rb_goto {Z : rb_Z} {G : rb_G} {cc : ByteArray} {nL : Nat} {own : String} {k pc : Nat} {L S : List Value} {h : rb_H} (X : rb_CX Z G cc nL own k) {off : Int} {tgt : Nat} (d : decode cc pc = .ok (.goto off, 3)) (ht : (pc : Int) + off = (tgt : Int)) (kk : rb_WP Z G nL tgt L S h) : rb_WP Z G nL pc L (S) h := by
  obtain ⟨p, l, e, R, s, m, args, below, meth, c, A, cells, slots, Q⟩ := Z
  obtain ⟨hx, hb, hml, hown, hsw, hA, hA2, hf, hlo, hce, hso⟩ := X
  intro H locs ls hP hS hl
  exact lv_goto hx hb d ht (kk H locs ls hP hS hl)
theorem rb_tabOut {Z : rb_Z} {G : rb_G} {cc : ByteArray} {nL : Nat} {own : String} {k pc : Nat} {L S : List Value} {h : rb_H} (X : rb_CX Z G cc nL own k) {dflt lo hi : Int} {offs : Array Int} {len : Nat} {x : Int32} {tgt : Nat} (d : decode cc pc = .ok (.tableswitch dflt lo hi offs, len)) (hq : x.toInt < lo ∨ hi < x.toInt) (ht : (pc : Int) + dflt = (tgt : Int)) (kk : rb_WP Z G nL tgt L S h) : rb_WP Z G nL pc L (.int x :: S) h := by
  obtain ⟨p, l, e, R, s, m, args, below, meth, c, A, cells, slots, Q⟩ := Z
  obtain ⟨hx, hb, hml, hown, hsw, hA, hA2, hf, hlo, hce, hso⟩ := X
  intro H locs ls hP hS hl
  exact lv_tableOut hx hb d hq ht (kk H locs ls hP hS hl)
theorem rb_tabIn {Z : rb_Z} {G : rb_G} {cc : ByteArray} {nL : Nat} {own : String} {k pc : Nat} {L S : List Value} {h : rb_H} (X : rb_CX Z G cc nL own k) {dflt lo hi : Int} {offs : Array Int} {len : Nat} {x : Int32} {off : Int} {tgt : Nat} (d : decode cc pc = .ok (.tableswitch dflt lo hi offs, len)) (h1 : ¬ x.toInt < lo) (h2 : ¬ hi < x.toInt) (ho : offs[(x.toInt - lo).toNat]? = some off) (ht : (pc : Int) + off = (tgt : Int)) (kk : rb_WP Z G nL tgt L S h) : rb_WP Z G nL pc L (.int x :: S) h := by
  obtain ⟨p, l, e, R, s, m, args, below, meth, c, A, cells, slots, Q⟩ := Z
  obtain ⟨hx, hb, hml, hown, hsw, hA, hA2, hf, hlo, hce, hso⟩ := X
  intro H locs ls hP hS hl
  exact lv_tableIn hx hb d h1 h2 ho ht (kk H locs ls hP hS hl)
theorem rb_iret {Z : rb_Z} {G : rb_G} {cc : ByteArray} {nL : Nat} {own : String} {k pc : Nat} {L S : List Value} {h : rb_H} {post : Option Value → rb_H → Prop} {v : Int32} (X : rb_CX Z G cc nL own k) (Y : rb_RT Z G (some .int) post) (d : decode cc pc = .ok (.ireturn, 1)) (hp : post (some (.int v)) h) : rb_WP Z G nL pc L [.int v] h := by
  obtain ⟨p, l, e, R, s, m, args, below, meth, c, A, cells, slots, Q⟩ := Z
  obtain ⟨hx, hb, hml, hown, hsw, hA, hA2, hf, hlo, hce, hso⟩ := X
  obtain ⟨rfl, hr, hlk, rfl⟩ := Y
  intro H locs ls hP hS hl
  exact W.iret hx hb hr (fun t ht hW => ⟨⟨_, h, rfl, hp, by rw [ht]; exact hP⟩, hS.F ht⟩) hS.2.2 d hlk
theorem rb_lret {Z : rb_Z} {G : rb_G} {cc : ByteArray} {nL : Nat} {own : String} {k pc : Nat} {L S : List Value} {h : rb_H} {post : Option Value → rb_H → Prop} {v : Int64} (X : rb_CX Z G cc nL own k) (Y : rb_RT Z G (some .long) post) (d : decode cc pc = .ok (.lreturn, 1)) (hp : post (some (.long v)) h) : rb_WP Z G nL pc L [.long v] h := by
  obtain ⟨p, l, e, R, s, m, args, below, meth, c, A, cells, slots, Q⟩ := Z
  obtain ⟨hx, hb, hml, hown, hsw, hA, hA2, hf, hlo, hce, hso⟩ := X
  obtain ⟨rfl, hr, hlk, rfl⟩ := Y
  intro H locs ls hP hS hl
  exact W.lret hx hb hr (fun t ht hW => ⟨⟨_, h, rfl, hp, by rw [ht]; exact hP⟩, hS.F ht⟩) hS.2.2 d hlk
theorem rb_vret {Z : rb_Z} {G : rb_G} {cc : ByteArray} {nL : Nat} {own : String} {k pc : Nat} {L S : List Value} {h : rb_H} {post : Option Value → rb_H → Prop} (X : rb_CX Z G cc nL own k) (Y : rb_RT Z G none post) (d : decode cc pc = .ok (.return_, 1)) (hp : post none h) : rb_WP Z G nL pc L [] h := by
  obtain ⟨p, l, e, R, s, m, args, below, meth, c, A, cells, slots, Q⟩ := Z
  obtain ⟨hx, hb, hml, hown, hsw, hA, hA2, hf, hlo, hce, hso⟩ := X
  obtain ⟨rfl, hr, hlk, rfl⟩ := Y
  intro H locs ls hP hS hl
  exact W.vret hx hb hr (fun t ht hW => ⟨⟨_, h, rfl, hp, by rw [ht]; exact hP⟩, hS.F ht⟩) hS.2.2 d hlk
theorem rb_zret {Z : rb_Z} {G : rb_G} {cc : ByteArray} {nL : Nat} {own : String} {k pc : Nat} {L S : List Value} {h : rb_H} {post : Option Value → rb_H → Prop} {v : Int32} {ty : FieldType} (X : rb_CX Z G cc nL own k) (Y : rb_RT Z G (some ty) post) (d : decode cc pc = .ok (.ireturn, 1)) (hn : narrow ty (.int v) = .int v) (hp : post (some (.int v)) h) : rb_WP Z G nL pc L [.int v] h := by
  obtain ⟨p, l, e, R, s, m, args, below, meth, c, A, cells, slots, Q⟩ := Z
  obtain ⟨hx, hb, hml, hown, hsw, hA, hA2, hf, hlo, hce, hso⟩ := X
  obtain ⟨rfl, hr, hlk, rfl⟩ := Y
  intro H locs ls hP hS hl
  exact W.zret hx hb hr hn (fun t ht hW => ⟨⟨_, h, rfl, hp, by rw [ht]; exact hP⟩, hS.F ht⟩) hS.2.2 d hlk
theorem rb_aret {Z : rb_Z} {G : rb_G} {cc : ByteArray} {nL : Nat} {own : String} {k pc : Nat} {L S : List Value} {h : rb_H} {post : Option Value → rb_H → Prop} {a : Nat} {C : String} (X : rb_CX Z G cc nL own k) (Y : rb_RT Z G (some (.object C)) post) (d : decode cc pc = .ok (.areturn, 1)) (hp : post (some (.ref a)) h) : rb_WP Z G nL pc L [.ref a] h := by
  obtain ⟨p, l, e, R, s, m, args, below, meth, c, A, cells, slots, Q⟩ := Z
  obtain ⟨hx, hb, hml, hown, hsw, hA, hA2, hf, hlo, hce, hso⟩ := X
  obtain ⟨rfl, hr, hlk, rfl⟩ := Y
  intro H locs ls hP hS hl
  exact W.aret hx hb hr (Or.inl ⟨_, rfl⟩) (Or.inr ⟨_, rfl⟩) (fun t ht hW => ⟨⟨_, h, rfl, hp, by rw [ht]; exact hP⟩, hS.F ht⟩) hS.2.2 d hlk
/-! fields, arrays, calls -/
theorem rb_cls : ∀ (ci : Nat) (q : vw_C), vwCl[ci]? = some q → (∀ w ∈ u_ws q.1 q.2.1 q.2.2, w ∈ lw_tbl ∧ rb_gd w = true) ∧ ∃ ty0 : Nat → FieldType, (∀ k, k < q.2.2 → parseFieldDescriptor (q.2.1 k).2.2.1 = some (ty0 k)) ∧ ∀ a, a < q.2.2 → ∀ b, b < q.2.2 → a ≠ b → (q.2.1 a).2.1 ≠ (q.2.1 b).2.1 := by
  intro ci q hq
  rcases ci with _ | _ | _ | _ | _ | ci
  · cases hq; exact ⟨by decide +kernel, tyX1, tyX1_ok, nmX1⟩
  · cases hq; exact ⟨by decide +kernel, tyX2, tyX2_ok, nmX2⟩
  · cases hq; exact ⟨by decide +kernel, tyX3, tyX3_ok, nmX3⟩
  · cases hq; exact ⟨by decide +kernel, tyX4, tyX4_ok, nmX4⟩
  · cases hq; exact ⟨by decide +kernel, tyX5, tyX5_ok, nmX5⟩
  · simp [vwCl] at hq
/-- a field's link in a pool: class number, field number -/
def rb_FL (own : String) (idx ci kf : Nat) : Prop := ∃ q : vw_C, vwCl[ci]? = some q ∧ kf < q.2.2 ∧ (Cond.fieldLink own idx (q.2.1 kf).1 (q.2.1 kf).2.1 (q.2.1 kf).2.2.1 ∈ lw_tbl ∨ ∃ host, Cond.fieldLinkNest own idx (q.2.1 kf).1 (q.2.1 kf).2.1 (q.2.1 kf).2.2.1 host ∈ lw_tbl)
theorem rb_nF : ∀ q ∈ rb_ids, q.2 = 0 → (vwCl[rb_ci q.1]?).map (fun x => x.2.2) = some (rb_fk q.1).length := by decide
theorem rb_arF : ∀ q ∈ rb_ids, ∀ j, j < 17 → q.2 = j + 1 → (rb_fk q.1).getD j 0 = 1 := by decide
theorem rb_idb : ∀ q ∈ rb_ids, q.2 < 17 := by decide
theorem rb_arK {o j : Nat} (ho : (o, j + 1) ∈ rb_ids) : (rb_fk o).getD j 0 = 1 := rb_arF _ ho j (by have := rb_idb _ ho; simp only at this; omega) rfl
theorem rb_fv_eq {G : rb_G} {h h' : rb_H} {o j : Nat} (hh : (rb_fk o).getD j 0 = 0 → h'.1 o j 0 = h.1 o j 0) : rb_fv G h' o j = rb_fv G h o j := by
  unfold rb_fv
  generalize (rb_fk o).getD j 0 = q at hh
  rcases q with _ | _ | q
  · simp [rb_fv0, hh rfl]
  · rfl
  · rfl
theorem rb_fl_eq {G : rb_G} {h h' : rb_H} {o : Nat} (hh : ∀ j, (rb_fk o).getD j 0 = 0 → h'.1 o j 0 = h.1 o j 0) : rb_fl G h' o = rb_fl G h o := by
  unfold rb_fl
  exact List.map_congr_left (fun j _ => rb_fv_eq (hh j))
theorem rb_ac_eq {G : rb_G} {h h' : rb_H} {o j n : Nat} (h1 : h'.1 o j = h.1 o j) (h2 : h'.2 o j = h.2 o j) : rb_ac G h' o j n = rb_ac G h o j n := by
  rcases n with _ | _ | n
  · simp [rb_ac, h1]
  · simp [rb_ac, h2]
  · rfl
theorem rb_fl_at {G : rb_G} {h : rb_H} {o kf ci : Nat} {q : vw_C} (ho : (o, 0) ∈ rb_ids) (hci : rb_ci o = ci) (hc : vwCl[ci]? = some q) (hk : kf < q.2.2) : kf < (rb_fk o).length ∧ (rb_fl G h o)[kf]? = some (rb_fv G h o kf) := by
  have h1 := rb_nF _ ho rfl
  rw [hci, hc] at h1
  have h2 : q.2.2 = (rb_fk o).length := by simpa using h1
  have h3 : kf < (rb_fk o).length := by omega
  exact ⟨h3, by simp [rb_fl, h3]⟩
def rb_u (h : rb_H) (o j i : Nat) (v : Int32) : rb_H := (va_up h.1 o (va_up (h.1 o) j (va_up (h.1 o j) i v)), h.2)
def rb_ul (h : rb_H) (o j i : Nat) (v : Int64) : rb_H := (h.1, va_up h.2 o (va_up (h.2 o) j (va_up (h.2 o j) i v)))
def rb_row (h : rb_H) (o j : Nat) (f : Nat → Int32) : rb_H := (va_up h.1 o (va_up (h.1 o) j f), h.2)
def rb_rowl (h : rb_H) (o j : Nat) (f : Nat → Int64) : rb_H := (h.1, va_up h.2 o (va_up (h.2 o) j f))
theorem rb_row_same {h : rb_H} {o j : Nat} {f : Nat → Int32} : (rb_row h o j f).1 o j = f := by simp [rb_row, va_up]
theorem rb_row_ne {h : rb_H} {o j o' j' : Nat} {f : Nat → Int32} (hn : ¬ (o' = o ∧ j' = j)) : (rb_row h o j f).1 o' j' = h.1 o' j' := by
  simp only [rb_row, va_up]
  by_cases h1 : o' = o
  · subst h1
    have : ¬ j' = j := fun e => hn ⟨rfl, e⟩
    simp [va_up, this]
  · simp [h1]
theorem rb_rowl_same {h : rb_H} {o j : Nat} {f : Nat → Int64} : (rb_rowl h o j f).2 o j = f := by simp [rb_rowl, va_up]
theorem rb_rowl_ne {h : rb_H} {o j o' j' : Nat} {f : Nat → Int64} (hn : ¬ (o' = o ∧ j' = j)) : (rb_rowl h o j f).2 o' j' = h.2 o' j' := by
  simp only [rb_rowl, va_up]
  by_cases h1 : o' = o
  · subst h1
    have : ¬ j' = j := fun e => hn ⟨rfl, e⟩
    simp [va_up, this]
  · simp [h1]
theorem rb_u_row {h : rb_H} {o j i : Nat} {v : Int32} : rb_u h o j i v = rb_row h o j (va_up (h.1 o j) i v) := rfl
theorem rb_ul_row {h : rb_H} {o j i : Nat} {v : Int64} : rb_ul h o j i v = rb_rowl h o j (va_up (h.2 o j) i v) := rfl
/-- an int row changes: which cell, which others stay -/
theorem rb_row_cl {G : rb_G} {h : rb_H} {o j : Nat} {f : Nat → Int32} {n : Nat} (ho : (o, j + 1) ∈ rb_ids) (hs : rb_ak o j = (0, n)) : rb_cl G (rb_row h o j f) o (j + 1) = .inl (G.2.1 0, n, .inl f) := by
  simp [rb_cl, rb_ac, hs, rb_row_same]
theorem rb_row_oth {G : rb_G} {h : rb_H} {o j : Nat} {f : Nat → Int32} (ho : (o, j + 1) ∈ rb_ids) : ∀ o' j', (o', j') ∈ rb_ids → (o', j') ≠ (o, j + 1) → rb_cl G (rb_row h o j f) o' j' = rb_cl G h o' j' := by
  intro o' j' hm hne
  rcases j' with _ | j'
  · show (Sum.inr (rb_ci o', rb_fl G (rb_row h o j f) o') : va_E) = Sum.inr (rb_ci o', rb_fl G h o')
    rw [rb_fl_eq (h := h)]
    intro j2 hj2
    have : ¬ (o' = o ∧ j2 = j) := by
      rintro ⟨rfl, rfl⟩
      rw [rb_arK ho] at hj2
      cases hj2
    rw [rb_row_ne this]
  · have : ¬ (o' = o ∧ j' = j) := by
      rintro ⟨rfl, rfl⟩
      exact hne rfl
    exact rb_ac_eq (rb_row_ne this) rfl
theorem rb_rowl_cl {G : rb_G} {h : rb_H} {o j : Nat} {f : Nat → Int64} {n : Nat} (ho : (o, j + 1) ∈ rb_ids) (hs : rb_ak o j = (1, n)) : rb_cl G (rb_rowl h o j f) o (j + 1) = .inl (G.2.1 1, n, .inr (.inl f)) := by
  simp [rb_cl, rb_ac, hs, rb_rowl_same]
theorem rb_rowl_oth {G : rb_G} {h : rb_H} {o j : Nat} {f : Nat → Int64} : ∀ o' j', (o', j') ∈ rb_ids → (o', j') ≠ (o, j + 1) → rb_cl G (rb_rowl h o j f) o' j' = rb_cl G h o' j' := by
  intro o' j' hm hne
  rcases j' with _ | j'
  · show (Sum.inr (rb_ci o', rb_fl G (rb_rowl h o j f) o') : va_E) = Sum.inr (rb_ci o', rb_fl G h o')
    rw [rb_fl_eq (h := h)]
    intro j2 hj2
    rfl
  · have : ¬ (o' = o ∧ j' = j) := by
      rintro ⟨rfl, rfl⟩
      exact hne rfl
    exact rb_ac_eq rfl (rb_rowl_ne this)
theorem rb_fld_cl {G : rb_G} {h : rb_H} {o kf : Nat} {v : Int32} (hk : kf < (rb_fk o).length) (h0 : (rb_fk o).getD kf 0 = 0) : rb_cl G (rb_u h o kf 0 v) o 0 = .inr (rb_ci o, (rb_fl G h o).set kf (.int v)) := by
  show (Sum.inr (rb_ci o, rb_fl G (rb_u h o kf 0 v) o) : va_E) = _
  congr 2
  apply List.ext_getElem?
  intro i
  by_cases hi : i = kf
  · subst hi
    rw [List.getElem?_set_self (by simpa [rb_fl] using hk)]
    simp only [rb_fl, List.getElem?_map, List.getElem?_range hk, Option.map_some]
    unfold rb_fv
    rw [h0]
    simp [rb_fv0, rb_u, va_up]
  · rw [List.getElem?_set_ne (Ne.symm hi)]
    simp only [rb_fl, List.getElem?_map]
    by_cases hl : i < (rb_fk o).length
    · simp only [List.getElem?_range hl, Option.map_some]
      rw [rb_fv_eq (h := h)]
      intro _
      rw [rb_u_row, rb_row_ne (fun z => hi z.2)]
    · rw [List.getElem?_eq_none (by simpa using hl)]
      rfl
theorem rb_fld_oth {G : rb_G} {h : rb_H} {o kf : Nat} {v : Int32} (h0 : (rb_fk o).getD kf 0 = 0) : ∀ o' j', (o', j') ∈ rb_ids → (o', j') ≠ (o, 0) → rb_cl G (rb_u h o kf 0 v) o' j' = rb_cl G h o' j' := by
  intro o' j' hm hne
  rcases j' with _ | j'
  · show (Sum.inr (rb_ci o', rb_fl G (rb_u h o kf 0 v) o') : va_E) = Sum.inr (rb_ci o', rb_fl G h o')
    rw [rb_fl_eq (h := h)]
    intro j2 hj2
    have : ¬ (o' = o ∧ j2 = kf) := by
      rintro ⟨rfl, rfl⟩
      exact hne rfl
    rw [rb_u_row, rb_row_ne this]
  · have : ¬ (o' = o ∧ j' = kf) := by
      rintro ⟨rfl, rfl⟩
      rw [rb_arK hm] at h0
      cases h0
    exact rb_ac_eq (by rw [rb_u_row, rb_row_ne this]) rfl
section RB
variable {Z : rb_Z} {G : rb_G} {cc : ByteArray} {nL : Nat} {own : String} {k pc : Nat} {L S : List Value} {h : rb_H}
theorem rb_get (X : rb_CX Z G cc nL own k) {o ci kf idx : Nat} {v : Value} (f : rb_FL own idx ci kf) (ho : (o, 0) ∈ rb_ids) (hci : rb_ci o = ci) (hv : rb_fv G h o kf = v) (d : decode cc pc = .ok (.getfield idx, 3)) (kk : rb_WP Z G nL (pc + 3) L (v :: S) h) : rb_WP Z G nL pc L (.ref (rb_ad G o 0) :: S) h := by
  obtain ⟨p, l, e, R, s, m, args, below, meth, c, A, cells, slots, Q⟩ := Z
  obtain ⟨hx, hb, hml, hown, hsw, hA, hA2, hf, hlo, hce, hso⟩ := X
  intro H locs ls hP hS hl
  obtain ⟨q, hc, hk, hlk⟩ := f
  obtain ⟨hw, -⟩ := rb_cls ci q hc
  obtain ⟨n, -, hq⟩ := rb_at (G := G) (h := h) ho
  have hts : ∀ w ∈ u_ws q.1 q.2.1 q.2.2, w.before args s = true := fun w h => hsw.1.use (hw w h).1 (hw w h).2 _
  obtain ⟨-, hfs⟩ := rb_fl_at (G := G) (h := h) ho hci hc hk
  rw [hv] at hfs
  have hq2 : (rb_cw G h)[n]? = some (rb_ad G o 0, .inr (ci, rb_fl G h o)) := by rw [hq]; simp [rb_cl, hci]
  rcases hlk with hlk | ⟨host, hlk⟩
  · exact va_get hx hb hts (fun _ h => h) hown hsw.2.1 hP n hq2 hc kf hk (hsw.1.use hlk rfl _) (fun _ h => h) hfs d (kk H locs ls hP hS hl)
  · exact va_getN hx hb hts (fun _ h => h) hown hsw.2.1 hP n hq2 hc kf hk (hsw.1.use hlk rfl _) (fun _ h => h) hfs d (kk H locs ls hP hS hl)
/-- a field that may be written: not final, its type -/
def rb_FP (ci kf : Nat) (ty : FieldType) : Prop := ∃ q : vw_C, vwCl[ci]? = some q ∧ (q.2.1 kf).2.2.2 = false ∧ parseFieldDescriptor (q.2.1 kf).2.2.1 = some ty
theorem rb_put (X : rb_CX Z G cc nL own k) {o ci kf idx : Nat} {v : Int32} {ty : FieldType} (f : rb_FL own idx ci kf) (g : rb_FP ci kf ty) (ho : (o, 0) ∈ rb_ids) (hci : rb_ci o = ci) (h0 : (rb_fk o).getD kf 0 = 0) (hn : narrow ty (.int v) = .int v) (hft : fits ty (.int v) = true) (d : decode cc pc = .ok (.putfield idx, 3)) (kk : rb_WP Z G nL (pc + 3) L S (rb_u h o kf 0 v)) : rb_WP Z G nL pc L (.int v :: .ref (rb_ad G o 0) :: S) h := by
  obtain ⟨p, l, e, R, s, m, args, below, meth, c, A, cells, slots, Q⟩ := Z
  obtain ⟨hx, hb, hml, hown, hsw, hA, hA2, hf, hlo, hce, hso⟩ := X
  intro H locs ls hP hS hl
  obtain ⟨q, hc, hk, hlk⟩ := f
  obtain ⟨q', hc', hfin, hpd⟩ := g
  cases hc.symm.trans hc'
  obtain ⟨hw, ty0, hty, hnm⟩ := rb_cls ci q hc
  obtain ⟨n, hn1, hq⟩ := rb_at (G := G) (h := h) ho
  have hts : ∀ w ∈ u_ws q.1 q.2.1 q.2.2, w.before args s = true := fun w h => hsw.1.use (hw w h).1 (hw w h).2 _
  obtain ⟨hkl, hfs⟩ := rb_fl_at (G := G) (h := h) ho hci hc hk
  have hq2 : (rb_cw G h)[n]? = some (rb_ad G o 0, .inr (ci, rb_fl G h o)) := by rw [hq]; simp [rb_cl, hci]
  have hD : va_D A (rb_cw G h) := rb_D hsw.2.2.1 hA
  have hset : (rb_cw G h).set n (rb_ad G o 0, .inr (ci, (rb_fl G h o).set kf (.int v))) = rb_cw G (rb_u h o kf 0 v) := rb_set hn1 (by rw [rb_fld_cl hkl h0, hci]) (rb_fld_oth h0)
  rcases hlk with hlk | ⟨host, hlk⟩
  · exact va_put hx hb hts (fun _ h => h) ty0 hty hnm hown hsw.2.1 hP hD hS n hq2 hc kf hk (hsw.1.use hlk rfl _) (fun _ h => h) hfin hpd hn hft (List.getElem?_eq_some_iff.mp hfs).1 d (fun H1 locs1 hP1 _ hS1 => kk H1 locs1 ls (hset ▸ hP1) hS1 hl)
  · exact va_putN hx hb hts (fun _ h => h) ty0 hty hnm hown hsw.2.1 hP hD hS n hq2 hc kf hk (hsw.1.use hlk rfl _) (fun _ h => h) hfin hpd hn hft (List.getElem?_eq_some_iff.mp hfs).1 d (fun H1 locs1 hP1 _ hS1 => kk H1 locs1 ls (hset ▸ hP1) hS1 hl)
theorem rb_cl_i {o j n : Nat} (hs : rb_ak o j = (0, n)) : rb_cl G h o (j + 1) = .inl (G.2.1 0, n, .inl (h.1 o j)) := by simp [rb_cl, rb_ac, hs]
theorem rb_cl_l {o j n : Nat} (hs : rb_ak o j = (1, n)) : rb_cl G h o (j + 1) = .inl (G.2.1 1, n, .inr (.inl (h.2 o j))) := by simp [rb_cl, rb_ac, hs]
theorem rb_iald (X : rb_CX Z G cc nL own k) {o j n : Nat} {i : Int32} (q : Nat) (ho : (o, j + 1) ∈ rb_ids) (hs : rb_ak o j = (0, n)) (hi : i = nI q) (hq : q < n) (d : decode cc pc = .ok (.iaload, 1)) (kk : rb_WP Z G nL (pc + 1) L (.int (h.1 o j q) :: S) h) (hn : n < 2 ^ 31 := by decide) : rb_WP Z G nL pc L (.int i :: .ref (rb_ad G o (j + 1)) :: S) h := by
  obtain ⟨p, l, e, R, s, m, args, below, meth, c, A, cells, slots, Q⟩ := Z
  obtain ⟨hx, hb, hml, hown, hsw, hA, hA2, hf, hlo, hce, hso⟩ := X
  intro H locs ls hP hS hl
  subst hi
  obtain ⟨a, ha1, ha⟩ := rb_at (G := G) (h := h) ho
  rw [rb_cl_i hs] at ha
  exact va_iald hx hb hsw.2.1 hP a 0 ha rfl (vp_in_nI hq hn) d (by rw [nI_clamp (by omega)]; exact kk H locs ls hP hS hl)
theorem rb_iast (X : rb_CX Z G cc nL own k) {o j n : Nat} {i v : Int32} (q : Nat) (ho : (o, j + 1) ∈ rb_ids) (hs : rb_ak o j = (0, n)) (hi : i = nI q) (hq : q < n) (d : decode cc pc = .ok (.iastore, 1)) (kk : rb_WP Z G nL (pc + 1) L S (rb_u h o j q v)) (hn : n < 2 ^ 31 := by decide) : rb_WP Z G nL pc L (.int v :: .int i :: .ref (rb_ad G o (j + 1)) :: S) h := by
  obtain ⟨p, l, e, R, s, m, args, below, meth, c, A, cells, slots, Q⟩ := Z
  obtain ⟨hx, hb, hml, hown, hsw, hA, hA2, hf, hlo, hce, hso⟩ := X
  intro H locs ls hP hS hl
  subst hi
  obtain ⟨a, ha1, ha⟩ := rb_at (G := G) (h := h) ho
  rw [rb_cl_i hs] at ha
  have hset : (rb_cw G h).set a (rb_ad G o (j + 1), .inl (G.2.1 0, n, .inl (upd (h.1 o j) (nI q).toNatClampNeg v))) = rb_cw G (rb_u h o j q v) := rb_set ha1 (by rw [rb_u_row, rb_row_cl ho hs, nI_clamp (by omega)]; rfl) (rb_row_oth ho)
  exact va_iast hx hb hsw.2.1 hP (rb_D hsw.2.2.1 hA) hS a 0 ha rfl (vp_in_nI hq hn) d (fun H1 locs1 hP1 _ hS1 => kk H1 locs1 ls (hset ▸ hP1) hS1 hl)
theorem rb_lald (X : rb_CX Z G cc nL own k) {o j n : Nat} {i : Int32} (q : Nat) (ho : (o, j + 1) ∈ rb_ids) (hs : rb_ak o j = (1, n)) (hi : i = nI q) (hq : q < n) (d : decode cc pc = .ok (.laload, 1)) (kk : rb_WP Z G nL (pc + 1) L (.long (h.2 o j q) :: S) h) (hn : n < 2 ^ 31 := by decide) : rb_WP Z G nL pc L (.int i :: .ref (rb_ad G o (j + 1)) :: S) h := by
  obtain ⟨p, l, e, R, s, m, args, below, meth, c, A, cells, slots, Q⟩ := Z
  obtain ⟨hx, hb, hml, hown, hsw, hA, hA2, hf, hlo, hce, hso⟩ := X
  intro H locs ls hP hS hl
  subst hi
  obtain ⟨a, ha1, ha⟩ := rb_at (G := G) (h := h) ho
  rw [rb_cl_l hs] at ha
  exact va_lald hx hb hsw.2.1 hP a 1 ha rfl (vp_in_nI hq hn) d (by rw [nI_clamp (by omega)]; exact kk H locs ls hP hS hl)
theorem rb_last (X : rb_CX Z G cc nL own k) {o j n : Nat} {i : Int32} {v : Int64} (q : Nat) (ho : (o, j + 1) ∈ rb_ids) (hs : rb_ak o j = (1, n)) (hi : i = nI q) (hq : q < n) (d : decode cc pc = .ok (.lastore, 1)) (kk : rb_WP Z G nL (pc + 1) L S (rb_ul h o j q v)) (hn : n < 2 ^ 31 := by decide) : rb_WP Z G nL pc L (.long v :: .int i :: .ref (rb_ad G o (j + 1)) :: S) h := by
  obtain ⟨p, l, e, R, s, m, args, below, meth, c, A, cells, slots, Q⟩ := Z
  obtain ⟨hx, hb, hml, hown, hsw, hA, hA2, hf, hlo, hce, hso⟩ := X
  intro H locs ls hP hS hl
  subst hi
  obtain ⟨a, ha1, ha⟩ := rb_at (G := G) (h := h) ho
  rw [rb_cl_l hs] at ha
  have hset : (rb_cw G h).set a (rb_ad G o (j + 1), .inl (G.2.1 1, n, .inr (.inl (vp_updL (h.2 o j) (nI q).toNatClampNeg v)))) = rb_cw G (rb_ul h o j q v) := rb_set ha1 (by rw [rb_ul_row, rb_rowl_cl ho hs, nI_clamp (by omega)]; rfl) rb_rowl_oth
  exact va_last hx hb hsw.2.1 hP (rb_D hsw.2.2.1 hA) hS a 1 ha rfl (vp_in_nI hq hn) d (fun H1 locs1 hP1 _ hS1 => kk H1 locs1 ls (hset ▸ hP1) hS1 hl)
theorem rb_aald (X : rb_CX Z G cc nL own k) {i : Int32} (q : Nat) (hi : i = nI q) (hq : q < 4) (d : decode cc pc = .ok (.aaload, 1)) (kk : rb_WP Z G nL (pc + 1) L (.ref (rb_ad G (4 + q) 0) :: S) h) : rb_WP Z G nL pc L (.int i :: .ref (rb_ad G 8 6) :: S) h := by
  obtain ⟨p, l, e, R, s, m, args, below, meth, c, A, cells, slots, Q⟩ := Z
  obtain ⟨hx, hb, hml, hown, hsw, hA, hA2, hf, hlo, hce, hso⟩ := X
  intro H locs ls hP hS hl
  subst hi
  obtain ⟨a, ha1, ha⟩ := rb_at (G := G) (h := h) (o := 8) (j := 6) (by decide)
  have hc : rb_cl G h 8 6 = .inl (G.2.1 2, 4, .inr (.inr (.inr (.inr (fun i => some (rb_ad G (4 + i) 0)))))) := by simp [rb_cl, rb_ac, rb_ak]
  rw [hc] at ha
  exact va_aldq hx hb hsw.2.1 hP a 2 ha rfl (vp_in_nI hq (by decide)) d (by rw [nI_clamp (by omega)]; exact kk H locs ls hP hS hl)
theorem rb_alen (X : rb_CX Z G cc nL own k) {o j n : Nat} (ho : (o, j + 1) ∈ rb_ids) (hs : rb_ak o j = (0, n)) (d : decode cc pc = .ok (.arraylength, 1)) (kk : rb_WP Z G nL (pc + 1) L (.int (nI n) :: S) h) : rb_WP Z G nL pc L (.ref (rb_ad G o (j + 1)) :: S) h := by
  obtain ⟨p, l, e, R, s, m, args, below, meth, c, A, cells, slots, Q⟩ := Z
  obtain ⟨hx, hb, hml, hown, hsw, hA, hA2, hf, hlo, hce, hso⟩ := X
  intro H locs ls hP hS hl
  obtain ⟨a, ha1, ha⟩ := rb_at (G := G) (h := h) ho
  rw [rb_cl_i hs] at ha
  exact va_alen hx hb hsw.2.1 hP a 0 ha rfl rfl d (kk H locs ls hP hS hl)
/-- two heaps that hold the same cells -/
theorem rb_cong {h' : rb_H} (he : ∀ o j, (o, j) ∈ rb_ids → ∀ (G : rb_G) (a : Nat) (H : Heap), va_at G.1 vwCl (a, rb_cl G h o j) H → va_at G.1 vwCl (a, rb_cl G h' o j) H) (kk : rb_WP Z G nL pc L S h') : rb_WP Z G nL pc L S h := by
  obtain ⟨p, l, e, R, s, m, args, below, meth, c, A, cells, slots, Q⟩ := Z
  intro H locs ls hP hS hl
  refine kk H locs ls (fun i q hq => ?_) hS hl
  simp only [rb_cw, List.getElem?_map, Option.map_eq_some_iff] at hq
  obtain ⟨⟨o, j⟩, h1, h2⟩ := hq
  subst h2
  exact he o j (List.mem_of_getElem? h1) G _ H (hP i _ (by simp [rb_cw, h1]))
theorem rb_arrV {c : ClassId} {n : Nat} {f g : Nat → Value} (hfg : ∀ i, i < n → f i = g i) : arrV c n f = arrV c n g := by
  unfold arrV
  congr 2
  funext i
  exact hfg i.1 i.2
/-- a row may be told by its places alone -/
theorem rb_rowC {o j n : Nat} {f g : Nat → Int32} (ho : (o, j + 1) ∈ rb_ids) (hs : rb_ak o j = (0, n)) (hfg : ∀ i, i < n → f i = g i) (kk : rb_WP Z G nL pc L S (rb_row h o j g)) : rb_WP Z G nL pc L S (rb_row h o j f) := by
  refine rb_cong (fun o' j' hm G a H hc => ?_) kk
  by_cases he : (o', j') = (o, j + 1)
  · cases he
    rw [rb_row_cl ho hs] at hc ⊢
    show H[a]? = some (vp_cell _ _)
    have h1 : H[a]? = some (vp_cell (G.2.1 0) (n, .inl f)) := hc
    rw [h1, vp_cell_i, vp_cell_i, rb_arrV (fun i hi => by rw [hfg i hi])]
  · rw [rb_row_oth ho o' j' hm he] at hc ⊢
    exact hc
theorem rb_rowlC {o j n : Nat} {f g : Nat → Int64} (ho : (o, j + 1) ∈ rb_ids) (hs : rb_ak o j = (1, n)) (hfg : ∀ i, i < n → f i = g i) (kk : rb_WP Z G nL pc L S (rb_rowl h o j g)) : rb_WP Z G nL pc L S (rb_rowl h o j f) := by
  refine rb_cong (fun o' j' hm G a H hc => ?_) kk
  by_cases he : (o', j') = (o, j + 1)
  · cases he
    rw [rb_rowl_cl ho hs] at hc ⊢
    show H[a]? = some (vp_cell _ _)
    have h1 : H[a]? = some (vp_cell (G.2.1 1) (n, .inr (.inl f))) := hc
    rw [h1, vp_cell_l, vp_cell_l, rb_arrV (fun i hi => by rw [hfg i hi])]
  · rw [rb_rowl_oth o' j' hm he] at hc ⊢
    exact hc
/-! calls -/
def rb_cV (y : MethodName) (bytes : ByteArray) (maxL : Nat) (ret : Option FieldType) (n : Nat) : Prop := Cond.instanceMethod y ∈ lw_tbl ∧ Cond.selects y.cls y y ∈ lw_tbl ∧ Cond.initialized y.cls ∈ lw_tbl ∧ Cond.code y bytes maxL ret ∈ lw_tbl ∧ (y.cls ≠ "java/lang/invoke/MethodHandle" ∧ y.cls ≠ "java/lang/invoke/VarHandle" ∧ (parseMethodDescriptor y.desc).map (fun d => d.parameters.length) = some n) ∧ maxL ≤ 25
def rb_cS (y : MethodName) (bytes : ByteArray) (maxL : Nat) (ret : Option FieldType) (n : Nat) : Prop := Cond.static y ∈ lw_tbl ∧ Cond.initialized y.cls ∈ lw_tbl ∧ Cond.code y bytes maxL ret ∈ lw_tbl ∧ (y.cls ≠ "java/lang/invoke/MethodHandle" ∧ y.cls ≠ "java/lang/invoke/VarHandle" ∧ (parseMethodDescriptor y.desc).map (fun d => d.parameters.length) = some n) ∧ maxL ≤ 25
def rb_cn (o : Nat) : String := if o < 3 then RX3 else if o = 3 then RX2 else if o < 8 then RX1 else if o = 8 then RX4 else RX5
theorem rb_cnO : ∀ q ∈ rb_ids, q.2 = 0 → (vwCl[rb_ci q.1]?).map (fun x => x.1) = some (rb_cn q.1) := by decide
theorem rb_CB {p : Program} {l : Launch} {e : Env} {R : Room} {s : State} {m : MethodId} {args : Array Value} {y : MethodName} {bytes : ByteArray} {maxL n kc idx : Nat} {ret : Option FieldType} (ht : rb_tb s) (h3 : Cond.initialized y.cls ∈ lw_tbl) (h4 : Cond.code y bytes maxL ret ∈ lw_tbl) (h5 : y.cls ≠ "java/lang/invoke/MethodHandle" ∧ y.cls ≠ "java/lang/invoke/VarHandle" ∧ (parseMethodDescriptor y.desc).map (fun d => d.parameters.length) = some n) (h6 : maxL ≤ 25) (lk : Cond.methodLink own idx y ∈ lw_tbl) (hkc : kc < k) (hf : k ≤ R.frames) (hlo : 44 * k ≤ R.locals) : CallB R s args own idx y bytes maxL ret [Cond.code y bytes maxL ret] (rb_rm kc) 0 0 n := by
  refine ⟨rfl, rfl, ?_, ?_, ?_, List.mem_cons_self, ht.use h4 rfl _, ht.use h3 rfl _, ⟨h5.1, h5.2.1⟩, fun sig hs => ?_, ht.use lk rfl _⟩
  · show kc + 1 ≤ R.frames; omega
  · show 8 + (maxL + 11) + 44 * kc ≤ R.locals; omega
  · intro w hw a' U hW
    rw [List.mem_singleton.mp hw]
    exact word_at hW (Or.inl rfl) (ht.use h4 rfl #[])
  · have h2 := h5.2.2
    rw [hs] at h2
    exact (Option.some.inj h2).symm
theorem rb_swH {A : Nat → Prop} {s : State} {H : Heap} {locs : List Loc} (hsw : rb_sw G s s.heap) (hA2 : ∀ a, a < s.heap.size → A a → rb_AD G a) (hS : va_S A s.heap H locs) : rb_sw G s H := hsw.kept (fun a h1 h2 => hS.2.1 a h1 (fun z => h2 (hA2 a h1 z)))
theorem rb_cont {p : Program} {l : Launch} {e : Env} {R : Room} {s : State} {m : MethodId} {args : Array Value} {below : List Frame} {meth : Method} {c : Code} {A : Nat → Prop} {cells slots : Nat} {Q : State → Prop} {H : Heap} {locs : List Loc} {ls : Array Slot} {S0 : List Value} {a : Array Value} {post : Option Value → rb_H → Prop} (hr : va_Run p l e R s m args below meth c H locs cells slots 0 0 (F0 m pc ls S0) S (rb_post G post a) (rb_AD G)) (hA : ∀ a, rb_AD G a → A a) (hS : va_S A s.heap H locs) (hl : rb_HL ls nL L)
    (kk : ∀ (r : Option Value) (h' : rb_H), post r h' → rb_WP (p, l, e, R, s, m, args, below, meth, c, A, cells, slots, Q) G nL (pc + 3) L (r.toList ++ S) h') : W p l e R s m args below meth c H locs cells slots Q (F0 m pc ls S0) := by
  intro T hT X
  obtain ⟨v, st₀, t, T', L1, h0, X', hL1, e1, e2, ⟨⟨r, h', hv, hp, hP'⟩, hz, hk⟩, st⟩ := hr T hT X
  cases hv
  rw [h0] at hz hk
  have hS' : va_S A s.heap T'.heap (locs ++ L1) := by
    refine ⟨Nat.le_trans hS.1 (by rw [e1]; exact hz), fun q h1 h2 => ?_, fun q hq => ?_⟩
    · rw [e1, hk q (Nat.lt_of_lt_of_le h1 hS.1) (fun z => h2 (hA q z))]
      exact hS.2.1 q h1 h2
    · rcases List.mem_append.mp hq with h | h
      · exact hS.2.2 q h
      · exact hA _ (hL1 q h)
  obtain ⟨t2, a1, b1⟩ := kk _ h' hp T'.heap (locs ++ L1) ls (by rw [e1]; exact hP') hS' hl T' rfl X'
  exact ⟨t2, st t2 a1, b1⟩
theorem rb_callV (X : rb_CX Z G cc nL own k) {y : MethodName} {bytes : ByteArray} {maxL n kc idx o : Nat} {ret : Option FieldType} {As S0 : List Value} {post : Option Value → rb_H → Prop} (c : rb_cV y bytes maxL ret n) (lk : Cond.methodLink own idx y ∈ lw_tbl) (hM : rb_M G kc y bytes maxL ret (.ref (rb_ad G o 0) :: As) h post) (hkc : kc < k) (ho : (o, 0) ∈ rb_ids) (hoc : rb_cn o = y.cls) (hn : As.length = n) (h0 : S0 = As.reverse ++ .ref (rb_ad G o 0) :: S) (hcat : (S.map fun v => v.category).sum ≤ 8) (d : decode cc pc = .ok (.invokevirtual idx, 3)) (kk : ∀ (r : Option Value) (h' : rb_H), post r h' → rb_WP Z G nL (pc + 3) L (r.toList ++ S) h') : rb_WP Z G nL pc L S0 h := by
  obtain ⟨p, l, e, R, s, m, args, below, meth, cd, A, cells, slots, Q⟩ := Z
  obtain ⟨hx, hb, hml, hown, hsw, hA, hA2, hf, hlo, hce, hso⟩ := X
  obtain ⟨c1, c2, c3, c4, c5, c6⟩ := c
  intro H locs ls hP hS hl
  subst h0
  obtain ⟨a, ha1, ha⟩ := rb_at (G := G) (h := h) ho
  have hci := rb_cnO _ ho rfl
  obtain ⟨q, hq1, hq2⟩ := Option.map_eq_some_iff.mp hci
  refine rb_cont (va_runV (Ts := []) (C := y.cls) ⟨hx, hb, hml, hown, fun _ h => absurd h List.not_mem_nil⟩ (hM l) ⟨rb_CB (l := l) (e := e) (p := p) (m := m) hsw.1 c3 c4 c5 c6 lk hkc hf hlo, hsw.1.use c1 rfl _, hsw.1.use c2 rfl _⟩ ⟨rb_blind, ?_, fun U hU hW => ⟨rfl, by rw [hU]; exact hP, by rw [hU]; exact (rb_swH hsw hA2 hS).warm hW⟩⟩ rfl hn hl.1 rfl (lv_room hcat) d ⟨by omega, by omega⟩) hA hS hl kk
  obtain ⟨cell, g1, g2, g3⟩ := va_recv hsw.2.1 hP hq1 ha
  exact ⟨cell, g1, g2, by rw [← hoc]; simp only at hq2; rw [← hq2]; exact g3⟩
theorem rb_callT (X : rb_CX Z G cc nL own k) {y : MethodName} {bytes : ByteArray} {maxL n kc idx i : Nat} {ret : Option FieldType} {As S0 : List Value} {post : Option Value → rb_H → Prop} (c : rb_cV y bytes maxL ret n) (lk : Cond.methodLink own idx y ∈ lw_tbl) (hM : rb_M G kc y bytes maxL ret (.ref (G.2.2.2.1 i) :: As) h post) (hkc : kc < k) (ho : i < 14) (hoc : y.cls = "java/lang/String") (hn : As.length = n) (h0 : S0 = As.reverse ++ .ref (G.2.2.2.1 i) :: S) (hcat : (S.map fun v => v.category).sum ≤ 8) (d : decode cc pc = .ok (.invokevirtual idx, 3)) (kk : ∀ (r : Option Value) (h' : rb_H), post r h' → rb_WP Z G nL (pc + 3) L (r.toList ++ S) h') : rb_WP Z G nL pc L S0 h := by
  obtain ⟨p, l, e, R, s, m, args, below, meth, cd, A, cells, slots, Q⟩ := Z
  obtain ⟨hx, hb, hml, hown, hsw, hA, hA2, hf, hlo, hce, hso⟩ := X
  obtain ⟨c1, c2, c3, c4, c5, c6⟩ := c
  intro H locs ls hP hS hl
  subst h0
  refine rb_cont (va_runV (Ts := []) (C := y.cls) ⟨hx, hb, hml, hown, fun _ h => absurd h List.not_mem_nil⟩ (hM l) ⟨rb_CB (l := l) (e := e) (p := p) (m := m) hsw.1 c3 c4 c5 c6 lk hkc hf hlo, hsw.1.use c1 rfl _, hsw.1.use c2 rfl _⟩ ⟨rb_blind, ?_, fun U hU hW => ⟨rfl, by rw [hU]; exact hP, by rw [hU]; exact (rb_swH hsw hA2 hS).warm hW⟩⟩ rfl hn hl.1 rfl (lv_room hcat) d ⟨by omega, by omega⟩) hA hS hl kk
  obtain ⟨cell, g1, g2, g3, -⟩ := ((rb_swH hsw hA2 hS).2.2.2.1.1 i ho).1
  exact ⟨cell, g1, g2, by rw [hoc]; exact g3⟩
theorem rb_callS (X : rb_CX Z G cc nL own k) {y : MethodName} {bytes : ByteArray} {maxL n kc idx : Nat} {ret : Option FieldType} {As S0 : List Value} {post : Option Value → rb_H → Prop} (c : rb_cS y bytes maxL ret n) (lk : Cond.methodLink own idx y ∈ lw_tbl) (hM : rb_M G kc y bytes maxL ret As h post) (hkc : kc < k) (hn : As.length = n) (h0 : S0 = As.reverse ++ S) (hcat : (S.map fun v => v.category).sum ≤ 8) (d : decode cc pc = .ok (.invokestatic idx, 3)) (kk : ∀ (r : Option Value) (h' : rb_H), post r h' → rb_WP Z G nL (pc + 3) L (r.toList ++ S) h') : rb_WP Z G nL pc L S0 h := by
  obtain ⟨p, l, e, R, s, m, args, below, meth, cd, A, cells, slots, Q⟩ := Z
  obtain ⟨hx, hb, hml, hown, hsw, hA, hA2, hf, hlo, hce, hso⟩ := X
  obtain ⟨c1, c3, c4, c5, c6⟩ := c
  intro H locs ls hP hS hl
  subst h0
  exact rb_cont (va_runS (Ts := []) ⟨hx, hb, hml, hown, fun _ h => absurd h List.not_mem_nil⟩ (hM l) ⟨rb_CB (l := l) (e := e) (p := p) (m := m) hsw.1 c3 c4 c5 c6 lk hkc hf hlo, hsw.1.use c1 rfl _⟩ ⟨rb_blind, fun U hU hW => ⟨rfl, by rw [hU]; exact hP, by rw [hU]; exact (rb_swH hsw hA2 hS).warm hW⟩⟩ rfl hn hl.1 rfl (lv_room hcat) d ⟨by omega, by omega⟩) hA hS hl kk
end RB

