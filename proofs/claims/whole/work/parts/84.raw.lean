/-! a world that grows: the constructors -/
def rw_ty (cI cJ cS : ClassId) : List (ClassId × FieldType) := [(cI, .int), (cJ, .long), (cS, .object "RumourBeds$Sheet")]
def rw_WP (Z : rb_Z) (D : va_G) (nL k n pc : Nat) (L S : List Value) (ws : va_W) : Prop := match Z with
  | (p, l, e, R, s, m, args, below, meth, c, A, _, _, Q) => ∀ (H : Heap) (locs : List Loc) (ls : Array Slot), va_P D vwCl ws H → va_D A ws → va_S A s.heap H locs → rb_HL ls nL L → W p l e R s m args below meth c H locs k n Q (F0 m pc ls S)
def rw_CX (Z : rb_Z) (D : va_G) (ty3 : List (ClassId × FieldType)) (cc : ByteArray) (nL : Nat) (own : String) (fr lo CN SN : Nat) : Prop := match Z with
  | (p, _, _, R, s, m, _, _, _, c, A, _, _, _) => p.tables.exec = Jvm.exec ∧ c.code = cc ∧ c.maxLocals = nL ∧ s.vm.findClass own = some m.cls ∧ rb_tb s ∧ (va_K D vwCl ty3 s ∧ va_AO "RumourBeds$Sheet" s) ∧ (∀ q, s.heap.size ≤ q → A q) ∧ fr ≤ R.frames ∧ lo ≤ R.locals ∧ CN ≤ R.cells ∧ SN ≤ R.slots
def rw_IN (Z : rb_Z) : Prop := match Z with
  | (_, _, _, _, _, _, _, _, meth, _, _, _, _, _) => meth.name = "<init>"
/-- a constructor: from the object a alone to these cells -/
def rw_Qc (D : va_G) (a : Nat) (e0 : va_E) (sz : Nat) (post : va_W → Prop) : Array Value → State → Outcome → State → Prop := va_Qv post (fun ws t => va_P D vwCl ws t.heap ∧ va_D (va_A [(a, e0)] sz) ws) (va_A [(a, e0)] sz)
def rw_M (D : va_G) (ty3 : List (ClassId × FieldType)) (y : MethodName) (cc : ByteArray) (nL mc ms fr lo a : Nat) (e0 : va_E) (post : va_W → Prop) : Prop :=
  ∀ (l : Launch) (sz : Nat), Met l y [Cond.code y cc nL none] { frames := fr, cells := mc, slots := ms, locals := lo } (va_Pc [.ref a] (fun U => U.heap.size = sz ∧ rb_tb U ∧ (va_K D vwCl ty3 U ∧ va_AO "RumourBeds$Sheet" U) ∧ va_P D vwCl [(a, e0)] U.heap)) (rw_Qc D a e0 sz post) mc ms (va_A [(a, e0)] sz)
def rw_RT (Z : rb_Z) (D : va_G) (a : Nat) (e0 : va_E) (mc ms : Nat) (post : va_W → Prop) : Prop := match Z with
  | (_, _, _, _, s, _, args, below, meth, _, A, _, _, Q) => Q = MQ below (rw_Qc D a e0 s.heap.size post) args s mc ms (va_A [(a, e0)] s.heap.size) ∧ meth.sig.returnType = none ∧ meth.locks = false ∧ A = va_A [(a, e0)] s.heap.size
theorem rw_meth {D : va_G} {ty3 : List (ClassId × FieldType)} {y : MethodName} {cc : ByteArray} {nL mc ms fr lo a : Nat} {e0 : va_E} {post : va_W → Prop} {L : List Value} (hy : plainName y.cls = true) (hyn : y.name = "<init>") (hn : (lg_sl [Value.ref a]).length ≤ nL) (hL : rb_pr 0 L = lv_args 0 [Value.ref a])
    (body : ∀ Z, rw_CX Z D ty3 cc nL y.cls fr lo mc ms → rw_IN Z → rw_RT Z D a e0 mc ms post → rw_WP Z D nL 0 0 0 L [] [(a, e0)]) : rw_M D ty3 y cc nL mc ms fr lo a e0 post := by
  intro l sz
  refine Met.ofW (cc := cc) (maxL := nL) (ret := none) hy rfl ?_
  intro p e s m args below meth c s₁ B hml hv
  obtain ⟨rfl, rfl, ht, hK, hP⟩ := hv
  have hown : s.vm.findClass y.cls = some m.cls := findClass_of_methodNamed B.named
  have hin : meth.name = y.name := (name_of_methodNamed B.named B.method).1
  have hl := lv_entry [Value.ref a] (n := nL) hn
  rw [lg_entry_eq]
  have hD0 : va_D (fun _ => True) [(a, e0)] := ⟨fun i j p q h1 h2 _ => by
    have z1 := (List.getElem?_eq_some_iff.mp h1).1
    have z2 := (List.getElem?_eq_some_iff.mp h2).1
    simp only [List.length_cons, List.length_nil] at z1 z2
    omega, fun _ _ _ => trivial⟩
  have hD := hD0.self (sz := s.heap.size)
  have h1 := body (p, l, e, (headSpec [Cond.code y cc nL none] { frames := fr, cells := mc, slots := ms, locals := lo }).room, s, m, [Value.ref a].toArray, below, meth, c, va_A [(a, e0)] s.heap.size, 0, 0, MQ below (rw_Qc D a e0 s.heap.size post) [Value.ref a].toArray s mc ms (va_A [(a, e0)] s.heap.size)) ⟨B.exec, B.bytes, hml, hown, ht, hK, fun q h => Or.inr h, Nat.le_refl _, Nat.le_refl _, Nat.le_refl _, Nat.le_refl _⟩ (hin.trans hyn) ⟨rfl, B.returns, B.notSynchronized, rfl⟩
  exact h1 s.heap [] _ hP hD va_S.rf (show lv_has _ _ _ by rw [hL]; exact hl)
/-- a field of one's own class -/
def rw_FL (own : String) (idx ci kf : Nat) : Prop := ∃ q : vw_C, vwCl[ci]? = some q ∧ kf < q.2.2 ∧ Cond.fieldLink own idx (q.2.1 kf).1 (q.2.1 kf).2.1 (q.2.1 kf).2.2.1 ∈ lw_tbl
def rw_FF (own : String) (ci kf : Nat) (ty : FieldType) : Prop := ∃ q : vw_C, vwCl[ci]? = some q ∧ (q.2.1 kf).2.2.2 = true ∧ parseFieldDescriptor (q.2.1 kf).2.2.1 = some ty ∧ (q.2.1 kf).1 = own
theorem rw_AC {s : State} {cA : ClassId} {ty : FieldType} {args : Array Value} (h1 : ArrOfT s cA ty) (h2 : s.vm.findClass ("[" ++ ty.toString) = some cA) : (Cond.arrayClass ty).before args s = true := by
  obtain ⟨-, kA, hk, comp, hkind⟩ := h1 0 (fun _ => .null)
  have hk : s.vm.classes[cA]? = some kA := hk
  simp [Cond.before, Cond.holds, Cond.value, h2, hk, hkind]
section RW
variable {Z : rb_Z} {D : va_G} {ty3 : List (ClassId × FieldType)} {cc : ByteArray} {nL k n pc fr lo CN SN : Nat} {own : String} {L S : List Value} {ws : va_W}
theorem rw_aload_n (X : rw_CX Z D ty3 cc nL own fr lo CN SN) {q : Fin 4} {i x : Nat} (d : decode cc pc = .ok (.aload_n q, 1)) (hi : (q : Nat) = i) (hL : L[i]? = some (.ref x)) (kk : rw_WP Z D nL k n (pc + 1) L (.ref x :: S) ws) : rw_WP Z D nL k n pc L (S) ws := by
  obtain ⟨p, l, e, R, s, m, args, below, meth, c, A, cells, slots, Q⟩ := Z
  obtain ⟨hx, hb, hml, hown, ht, ⟨hK, hAO⟩, hA, hf, hlo, hce, hso⟩ := X
  intro H locs ls hP hD hS hl
  exact lv_aload_n hx hb d hi (rb_HL.at hl hL (by simp)) (kk H locs ls hP hD hS hl)
theorem rw_iload_n (X : rw_CX Z D ty3 cc nL own fr lo CN SN) {q : Fin 4} {i : Nat} {x : Int32} (d : decode cc pc = .ok (.iload_n q, 1)) (hi : (q : Nat) = i) (hL : L[i]? = some (.int x)) (kk : rw_WP Z D nL k n (pc + 1) L (.int x :: S) ws) : rw_WP Z D nL k n pc L (S) ws := by
  obtain ⟨p, l, e, R, s, m, args, below, meth, c, A, cells, slots, Q⟩ := Z
  obtain ⟨hx, hb, hml, hown, ht, ⟨hK, hAO⟩, hA, hf, hlo, hce, hso⟩ := X
  intro H locs ls hP hD hS hl
  exact lv_iload_n hx hb d hi (rb_HL.at hl hL (by simp)) (kk H locs ls hP hD hS hl)
theorem rw_iconst (X : rw_CX Z D ty3 cc nL own fr lo CN SN) {z : Int} {v : Int32} (d : decode cc pc = .ok (.iconst z, 1)) (hv : Int32.ofInt z = v) (kk : rw_WP Z D nL k n (pc + 1) L (.int v :: S) ws) : rw_WP Z D nL k n pc L (S) ws := by
  obtain ⟨p, l, e, R, s, m, args, below, meth, c, A, cells, slots, Q⟩ := Z
  obtain ⟨hx, hb, hml, hown, ht, ⟨hK, hAO⟩, hA, hf, hlo, hce, hso⟩ := X
  intro H locs ls hP hD hS hl
  exact lv_iconst hx hb d hv (kk H locs ls hP hD hS hl)
theorem rw_bipush (X : rw_CX Z D ty3 cc nL own fr lo CN SN) {z : Int} {v : Int32} (d : decode cc pc = .ok (.bipush z, 2)) (hv : (Int8.ofInt z).toInt32 = v) (kk : rw_WP Z D nL k n (pc + 2) L (.int v :: S) ws) : rw_WP Z D nL k n pc L (S) ws := by
  obtain ⟨p, l, e, R, s, m, args, below, meth, c, A, cells, slots, Q⟩ := Z
  obtain ⟨hx, hb, hml, hown, ht, ⟨hK, hAO⟩, hA, hf, hlo, hce, hso⟩ := X
  intro H locs ls hP hD hS hl
  exact lv_bipush hx hb d hv (kk H locs ls hP hD hS hl)
theorem rw_sipush (X : rw_CX Z D ty3 cc nL own fr lo CN SN) {z : Int} {v : Int32} (d : decode cc pc = .ok (.sipush z, 3)) (hv : (Int16.ofInt z).toInt32 = v) (kk : rw_WP Z D nL k n (pc + 3) L (.int v :: S) ws) : rw_WP Z D nL k n pc L (S) ws := by
  obtain ⟨p, l, e, R, s, m, args, below, meth, c, A, cells, slots, Q⟩ := Z
  obtain ⟨hx, hb, hml, hown, ht, ⟨hK, hAO⟩, hA, hf, hlo, hce, hso⟩ := X
  intro H locs ls hP hD hS hl
  exact lv_sipush hx hb d hv (kk H locs ls hP hD hS hl)
theorem rw_istore_n (X : rw_CX Z D ty3 cc nL own fr lo CN SN) {q : Fin 4} {i : Nat} {x : Int32} {L2 : List Value} (d : decode cc pc = .ok (.istore_n q, 1)) (hi : (q : Nat) = i) (hn : i < nL) (ho : rb_ok1 L i = true) (h2 : L.set i (.int x) = L2) (kk : rw_WP Z D nL k n (pc + 1) L2 (S) ws) : rw_WP Z D nL k n pc L (.int x :: S) ws := by
  obtain ⟨p, l, e, R, s, m, args, below, meth, c, A, cells, slots, Q⟩ := Z
  obtain ⟨hx, hb, hml, hown, ht, ⟨hK, hAO⟩, hA, hf, hlo, hce, hso⟩ := X
  intro H locs ls hP hD hS hl
  exact lv_istore_n hx hb d hi hl hn rfl (fun ls1 hl1 => kk H locs ls1 hP hD hS (h2 ▸ rb_HL.set1 ho hl1))
theorem rw_astore_n (X : rw_CX Z D ty3 cc nL own fr lo CN SN) {q : Fin 4} {i x : Nat} {L2 : List Value} (d : decode cc pc = .ok (.astore_n q, 1)) (hi : (q : Nat) = i) (hn : i < nL) (ho : rb_ok1 L i = true) (h2 : L.set i (.ref x) = L2) (kk : rw_WP Z D nL k n (pc + 1) L2 (S) ws) : rw_WP Z D nL k n pc L (.ref x :: S) ws := by
  obtain ⟨p, l, e, R, s, m, args, below, meth, c, A, cells, slots, Q⟩ := Z
  obtain ⟨hx, hb, hml, hown, ht, ⟨hK, hAO⟩, hA, hf, hlo, hce, hso⟩ := X
  intro H locs ls hP hD hS hl
  exact lv_astore_n hx hb d hi hl hn rfl (fun ls1 hl1 => kk H locs ls1 hP hD hS (h2 ▸ rb_HL.set1 ho hl1))
theorem rw_iinc (X : rw_CX Z D ty3 cc nL own fr lo CN SN) {i : Nat} {z : Int} {x v : Int32} {L2 : List Value} (d : decode cc pc = .ok (.iinc i z, 3)) (hL : L[i]? = some (.int x)) (hv : x + Int32.ofInt z = v) (hn : i < nL) (ho : rb_ok1 L i = true) (h2 : L.set i (.int v) = L2) (kk : rw_WP Z D nL k n (pc + 3) L2 (S) ws) : rw_WP Z D nL k n pc L (S) ws := by
  obtain ⟨p, l, e, R, s, m, args, below, meth, c, A, cells, slots, Q⟩ := Z
  obtain ⟨hx, hb, hml, hown, ht, ⟨hK, hAO⟩, hA, hf, hlo, hce, hso⟩ := X
  intro H locs ls hP hD hS hl
  obtain ⟨q, hq⟩ := List.getElem?_of_mem ((rb_pr_mem L 0 (i, .int x)).mpr ⟨i, by simp, hL, by simp⟩)
  exact lv_iinc hx hb d hl hq hv hn rfl (fun ls1 hl1 => kk H locs ls1 hP hD hS (h2 ▸ rb_HL.set1 ho hl1))
theorem rw_dup (X : rw_CX Z D ty3 cc nL own fr lo CN SN) {v : Value} (d : decode cc pc = .ok (.dup, 1)) (hv : v.category = 1) (kk : rw_WP Z D nL k n (pc + 1) L (v :: v :: S) ws) : rw_WP Z D nL k n pc L (v :: S) ws := by
  obtain ⟨p, l, e, R, s, m, args, below, meth, c, A, cells, slots, Q⟩ := Z
  obtain ⟨hx, hb, hml, hown, ht, ⟨hK, hAO⟩, hA, hf, hlo, hce, hso⟩ := X
  intro H locs ls hP hD hS hl
  exact lv_dup hx hb d hv (kk H locs ls hP hD hS hl)
theorem rw_geT (X : rw_CX Z D ty3 cc nL own fr lo CN SN) {x y : Int32} {off : Int} {tgt : Nat} (d : decode cc pc = .ok (.if_icmp .ge off, 3)) (ht : (pc : Int) + off = (tgt : Int)) (hc : y ≤ x) (kk : rw_WP Z D nL k n tgt L S ws) : rw_WP Z D nL k n pc L (.int y :: .int x :: S) ws := by
  obtain ⟨p, l, e, R, s, m, args, below, meth, c, A, cells, slots, Q⟩ := Z
  obtain ⟨hx, hb, hml, hown, ht2, ⟨hK, hAO⟩, hA, hf, hlo, hce, hso⟩ := X
  intro H locs ls hP hD hS hl
  exact lv_icmp_ge hx hb d ht (fun q => kk H locs ls hP hD hS hl) (fun q => absurd hc q)
theorem rw_geF (X : rw_CX Z D ty3 cc nL own fr lo CN SN) {x y : Int32} {off : Int} {tgt : Nat} (d : decode cc pc = .ok (.if_icmp .ge off, 3)) (ht : (pc : Int) + off = (tgt : Int)) (hc : ¬ y ≤ x) (kk : rw_WP Z D nL k n (pc + 3) L S ws) : rw_WP Z D nL k n pc L (.int y :: .int x :: S) ws := by
  obtain ⟨p, l, e, R, s, m, args, below, meth, c, A, cells, slots, Q⟩ := Z
  obtain ⟨hx, hb, hml, hown, ht2, ⟨hK, hAO⟩, hA, hf, hlo, hce, hso⟩ := X
  intro H locs ls hP hD hS hl
  exact lv_icmp_ge hx hb d ht (fun q => absurd q hc) (fun q => kk H locs ls hP hD hS hl)
theorem rw_goto (X : rw_CX Z D ty3 cc nL own fr lo CN SN) {off : Int} {tgt : Nat} (d : decode cc pc = .ok (.goto off, 3)) (ht : (pc : Int) + off = (tgt : Int)) (kk : rw_WP Z D nL k n tgt L S ws) : rw_WP Z D nL k n pc L S ws := by
  obtain ⟨p, l, e, R, s, m, args, below, meth, c, A, cells, slots, Q⟩ := Z
  obtain ⟨hx, hb, hml, hown, ht2, ⟨hK, hAO⟩, hA, hf, hlo, hce, hso⟩ := X
  intro H locs ls hP hD hS hl
  exact lv_goto hx hb d ht (kk H locs ls hP hD hS hl)
theorem rw_obj (X : rw_CX Z D ty3 cc nL own fr lo CN SN) {a idx : Nat} (lk : Cond.methodLink own idx Lib.objectInit ∈ lw_tbl) (hfr : 1 ≤ fr) (hl2 : 12 ≤ lo) (d : decode cc pc = .ok (.invokespecial idx, 3)) (kk : rw_WP Z D nL k n (pc + 3) L [] ws) : rw_WP Z D nL k n pc L [.ref a] ws := by
  obtain ⟨p, l, e, R, s, m, args, below, meth, c, A, cells, slots, Q⟩ := Z
  obtain ⟨hx, hb, hml, hown, ht, ⟨hK, hAO⟩, hA, hf, hlo, hce, hso⟩ := X
  intro H locs ls hP hD hS hl
  exact W.objInit hx hb hown (ht.use lk rfl _) (ht.use (w := Cond.instanceMethod Lib.objectInit) (by decide +kernel) rfl _) (ht.use (w := Cond.code Lib.objectInit ⟨#[0xb1]⟩ 1 none) (by decide +kernel) rfl _) rfl (by rw [hml]; exact hl.1) rfl d (by omega) (by show 2 * 0 + 0 + 12 ≤ R.locals; omega) (kk H locs ls hP hD hS hl)
theorem rw_newI {cI cJ cS : ClassId} (X : rw_CX Z D (rw_ty cI cJ cS) cc nL own fr lo CN SN) {N : Nat} {v : Int32} (hv : v = nI N) (hN : N < 2 ^ 20) (hk : k + 1 ≤ CN) (hn : n + N ≤ SN) (d : decode cc pc = .ok (.newarray .int, 2)) (kk : ∀ q : Nat, rw_WP Z D nL (k + 1) (n + N) (pc + 2) L (.ref q :: S) (ws ++ [(q, .inl (cI, N, .inl (fun _ => 0)))])) : rw_WP Z D nL k n pc L (.int v :: S) ws := by
  obtain ⟨p, l, e, R, s, m, args, below, meth, c, A, cells, slots, Q⟩ := Z
  obtain ⟨hx, hb, hml, hown, ht, ⟨hK, hAO⟩, hA, hf, hlo, hce, hso⟩ := X
  intro H locs ls hP hD hS hl
  subst hv
  have harr : (Cond.arrayClass (newarray.typeOf .int)).before args s = true := rw_AC (hK.2 0 (cI, .int) rfl).1 (hK.2 0 (cI, .int) rfl).2
  refine va_newa hx hb harr (ty := .int) rfl hK hP hD hS hA (a0 := (N, .inl (fun _ => 0))) (fun cA => rfl) (nI_pos (by omega)) (nI_clamp (by omega)) (by rw [show componentBytes FieldType.int = 4 from by decide]; omega) (by omega) (by omega) d (fun q cA H1 hK1 hP1 hD1 hS1 => ?_)
  have e1 : s.vm.findClass ("[" ++ FieldType.int.toString) = some cA := (hK1.2 3 (cA, .int) rfl).2
  have e2 : s.vm.findClass ("[" ++ FieldType.int.toString) = some cI := (hK.2 0 (cI, .int) rfl).2
  obtain rfl : cI = cA := Option.some.inj (e2.symm.trans e1)
  exact kk q H1 locs ls hP1 hD1 hS1 hl
theorem rw_newJ {cI cJ cS : ClassId} (X : rw_CX Z D (rw_ty cI cJ cS) cc nL own fr lo CN SN) {N : Nat} {v : Int32} (hv : v = nI N) (hN : N < 2 ^ 20) (hk : k + 1 ≤ CN) (hn : n + N ≤ SN) (d : decode cc pc = .ok (.newarray .long, 2)) (kk : ∀ q : Nat, rw_WP Z D nL (k + 1) (n + N) (pc + 2) L (.ref q :: S) (ws ++ [(q, .inl (cJ, N, .inr (.inl (fun _ => 0))))])) : rw_WP Z D nL k n pc L (.int v :: S) ws := by
  obtain ⟨p, l, e, R, s, m, args, below, meth, c, A, cells, slots, Q⟩ := Z
  obtain ⟨hx, hb, hml, hown, ht, ⟨hK, hAO⟩, hA, hf, hlo, hce, hso⟩ := X
  intro H locs ls hP hD hS hl
  subst hv
  have harr : (Cond.arrayClass (newarray.typeOf .long)).before args s = true := rw_AC (hK.2 1 (cJ, .long) rfl).1 (hK.2 1 (cJ, .long) rfl).2
  refine va_newa hx hb harr (ty := .long) rfl hK hP hD hS hA (a0 := (N, .inr (.inl (fun _ => 0)))) (fun cA => rfl) (nI_pos (by omega)) (nI_clamp (by omega)) (by rw [show componentBytes FieldType.long = 8 from by decide]; omega) (by omega) (by omega) d (fun q cA H1 hK1 hP1 hD1 hS1 => ?_)
  have e1 : s.vm.findClass ("[" ++ FieldType.long.toString) = some cA := (hK1.2 3 (cA, .long) rfl).2
  have e2 : s.vm.findClass ("[" ++ FieldType.long.toString) = some cJ := (hK.2 1 (cJ, .long) rfl).2
  obtain rfl : cJ = cA := Option.some.inj (e2.symm.trans e1)
  exact kk q H1 locs ls hP1 hD1 hS1 hl
theorem rw_newS {cI cJ cS : ClassId} (X : rw_CX Z D (rw_ty cI cJ cS) cc nL own fr lo CN SN) {N idx : Nat} {v : Int32} (lk : Cond.classLink own idx "RumourBeds$Sheet" ∈ lw_tbl) (hv : v = nI N) (hN : N < 2 ^ 20) (hk : k + 1 ≤ CN) (hn : n + N ≤ SN) (d : decode cc pc = .ok (.anewarray idx, 3)) (kk : ∀ q : Nat, rw_WP Z D nL (k + 1) (n + N) (pc + 3) L (.ref q :: S) (ws ++ [(q, .inl (cS, N, .inr (.inr (.inr (.inr (fun _ => none))))))])) : rw_WP Z D nL k n pc L (.int v :: S) ws := by
  obtain ⟨p, l, e, R, s, m, args, below, meth, c, A, cells, slots, Q⟩ := Z
  obtain ⟨hx, hb, hml, hown, ht, ⟨hK, hAO⟩, hA, hf, hlo, hce, hso⟩ := X
  intro H locs ls hP hD hS hl
  subst hv
  refine va_newq hx hb hown (ht.use lk rfl _) hAO hK hP hD hS hA (nI_pos (by omega)) (nI_clamp (by omega)) (by omega) (by omega) (by omega) d (fun q cA H1 hK1 hP1 hD1 hS1 => ?_)
  obtain ⟨-, -, -, -, -, e1⟩ := (hK1.2 3 (cA, .object "RumourBeds$Sheet") rfl).2
  obtain ⟨-, -, -, -, -, e2⟩ := (hK.2 2 (cS, .object "RumourBeds$Sheet") rfl).2
  obtain rfl : cS = cA := Option.some.inj (e2.symm.trans e1)
  exact kk q H1 locs ls hP1 hD1 hS1 hl
theorem rw_new (X : rw_CX Z D ty3 cc nL own fr lo CN SN) {q : vw_C} {ci idx : Nat} {fs : List Value} (hc : vwCl[ci]? = some q) (lk : Cond.classLink own idx q.1 ∈ lw_tbl) (li : Cond.instantiable q.1 q.2.2 ∈ lw_tbl) (lz : Cond.initialized q.1 ∈ lw_tbl) (hfs : ∀ ty0 : Nat → FieldType, (∀ j, j < q.2.2 → parseFieldDescriptor (q.2.1 j).2.2.1 = some (ty0 j)) → ∀ j, j < q.2.2 → defaultValue (ty0 j) = vp_V fs j) (hk : k + 1 ≤ CN) (hn : n + q.2.2 ≤ SN) (d : decode cc pc = .ok (.new idx, 3)) (kk : ∀ a : Nat, rw_WP Z D nL (k + 1) (n + q.2.2) (pc + 3) L (.ref a :: S) (ws ++ [(a, .inr (ci, fs))])) : rw_WP Z D nL k n pc L S ws := by
  obtain ⟨p, l, e, R, s, m, args, below, meth, c, A, cells, slots, Q⟩ := Z
  obtain ⟨hx, hb, hml, hown, ht, ⟨hK, hAO⟩, hA, hf, hlo, hce, hso⟩ := X
  intro H locs ls hP hD hS hl
  obtain ⟨hw, ty0, hty, -⟩ := rb_cls ci q hc
  have hts : ∀ w ∈ u_ws q.1 q.2.1 q.2.2, w.before args s = true := fun w h => ht.use (hw w h).1 (hw w h).2 _
  exact va_new hx hb hts (fun _ h => h) ty0 hty hown (ht.use lk rfl _) (ht.use li rfl _) (ht.use lz rfl _) hK hP hD hS hA hc (hfs ty0 hty) (by omega) (by omega) d (fun a H1 hP1 hD1 hS1 => kk a H1 locs ls hP1 hD1 hS1 hl)
theorem rw_get (X : rw_CX Z D ty3 cc nL own fr lo CN SN) {a ci kf idx : Nat} (j : Nat) {fs : List Value} {v : Value} (f : rw_FL own idx ci kf) (he : ws[j]? = some (a, .inr (ci, fs))) (hv : fs[kf]? = some v) (d : decode cc pc = .ok (.getfield idx, 3)) (kk : rw_WP Z D nL k n (pc + 3) L (v :: S) ws) : rw_WP Z D nL k n pc L (.ref a :: S) ws := by
  obtain ⟨p, l, e, R, s, m, args, below, meth, c, A, cells, slots, Q⟩ := Z
  obtain ⟨hx, hb, hml, hown, ht, ⟨hK, hAO⟩, hA, hf, hlo, hce, hso⟩ := X
  intro H locs ls hP hD hS hl
  obtain ⟨q, hc, hk, hlk⟩ := f
  obtain ⟨hw, -⟩ := rb_cls ci q hc
  have hts : ∀ w ∈ u_ws q.1 q.2.1 q.2.2, w.before args s = true := fun w h => ht.use (hw w h).1 (hw w h).2 _
  exact va_get hx hb hts (fun _ h => h) hown hK hP j he hc kf hk (ht.use hlk rfl _) (fun _ h => h) hv d (kk H locs ls hP hD hS hl)
theorem rw_put (X : rw_CX Z D ty3 cc nL own fr lo CN SN) {a ci kf idx : Nat} (j : Nat) {fs : List Value} {v : Value} {ty : FieldType} {ws2 : va_W} (f : rw_FL own idx ci kf) (g : rb_FP ci kf ty) (he : ws[j]? = some (a, .inr (ci, fs))) (hl2 : kf < fs.length) (hn : narrow ty v = v) (hft : fits ty v = true) (h2 : ws.set j (a, .inr (ci, fs.set kf v)) = ws2) (d : decode cc pc = .ok (.putfield idx, 3)) (kk : rw_WP Z D nL k n (pc + 3) L S ws2) : rw_WP Z D nL k n pc L (v :: .ref a :: S) ws := by
  obtain ⟨p, l, e, R, s, m, args, below, meth, c, A, cells, slots, Q⟩ := Z
  obtain ⟨hx, hb, hml, hown, ht, ⟨hK, hAO⟩, hA, hf, hlo, hce, hso⟩ := X
  intro H locs ls hP hD hS hl
  obtain ⟨q, hc, hk, hlk⟩ := f
  obtain ⟨q', hc', hfin, hpd⟩ := g
  cases hc.symm.trans hc'
  obtain ⟨hw, ty0, hty, hnm⟩ := rb_cls ci q hc
  have hts : ∀ w ∈ u_ws q.1 q.2.1 q.2.2, w.before args s = true := fun w h => ht.use (hw w h).1 (hw w h).2 _
  exact va_put hx hb hts (fun _ h => h) ty0 hty hnm hown hK hP hD hS j he hc kf hk (ht.use hlk rfl _) (fun _ h => h) hfin hpd hn hft hl2 d (fun H1 locs1 hP1 hD1 hS1 => kk H1 locs1 ls (h2 ▸ hP1) (h2 ▸ hD1) hS1 hl)
theorem rw_putF (X : rw_CX Z D ty3 cc nL own fr lo CN SN) (I : rw_IN Z) {a ci kf idx : Nat} (j : Nat) {fs : List Value} {v : Value} {ty : FieldType} {ws2 : va_W} (f : rw_FL own idx ci kf) (g : rw_FF own ci kf ty) (he : ws[j]? = some (a, .inr (ci, fs))) (hl2 : kf < fs.length) (hn : narrow ty v = v) (hft : fits ty v = true) (h2 : ws.set j (a, .inr (ci, fs.set kf v)) = ws2) (d : decode cc pc = .ok (.putfield idx, 3)) (kk : rw_WP Z D nL k n (pc + 3) L S ws2) : rw_WP Z D nL k n pc L (v :: .ref a :: S) ws := by
  obtain ⟨p, l, e, R, s, m, args, below, meth, c, A, cells, slots, Q⟩ := Z
  obtain ⟨hx, hb, hml, hown, ht, ⟨hK, hAO⟩, hA, hf, hlo, hce, hso⟩ := X
  intro H locs ls hP hD hS hl
  obtain ⟨q, hc, hk, hlk⟩ := f
  obtain ⟨q', hc', hfin, hpd, hdecl⟩ := g
  cases hc.symm.trans hc'
  obtain ⟨hw, ty0, hty, hnm⟩ := rb_cls ci q hc
  have hts : ∀ w ∈ u_ws q.1 q.2.1 q.2.2, w.before args s = true := fun w h => ht.use (hw w h).1 (hw w h).2 _
  exact va_putF hx hb hts (fun _ h => h) ty0 hty hnm hown hK hP hD hS j he hc kf hk (ht.use hlk rfl _) (fun _ h => h) hfin I hdecl hpd hn hft hl2 d (fun H1 locs1 hP1 hD1 hS1 => kk H1 locs1 ls (h2 ▸ hP1) (h2 ▸ hD1) hS1 hl)
theorem rw_iast {cI cJ cS : ClassId} (X : rw_CX Z D (rw_ty cI cJ cS) cc nL own fr lo CN SN) {a N : Nat} (j q : Nat) {f : Nat → Int32} {i v : Int32} {ws2 : va_W} (he : ws[j]? = some (a, .inl (cI, N, .inl f))) (hi : i = nI q) (hq : q < N) (hN : N < 2 ^ 31) (h2 : ws.set j (a, .inl (cI, N, .inl (va_up f q v))) = ws2) (d : decode cc pc = .ok (.iastore, 1)) (kk : rw_WP Z D nL k n (pc + 1) L S ws2) : rw_WP Z D nL k n pc L (.int v :: .int i :: .ref a :: S) ws := by
  obtain ⟨p, l, e, R, s, m, args, below, meth, c, A, cells, slots, Q⟩ := Z
  obtain ⟨hx, hb, hml, hown, ht, ⟨hK, hAO⟩, hA, hf, hlo, hce, hso⟩ := X
  intro H locs ls hP hD hS hl
  subst hi
  have h3 : ws.set j (a, .inl (cI, N, .inl (upd f (nI q).toNatClampNeg v))) = ws2 := by rw [nI_clamp (by omega)]; exact h2
  exact va_iast hx hb hK hP hD hS j 0 he rfl (vp_in_nI hq hN) d (fun H1 locs1 hP1 hD1 hS1 => kk H1 locs1 ls (h3 ▸ hP1) (h3 ▸ hD1) hS1 hl)
theorem rw_aast {cI cJ cS : ClassId} (X : rw_CX Z D (rw_ty cI cJ cS) cc nL own fr lo CN SN) {a N v : Nat} (j jv q : Nat) {f : Nat → Option Nat} {vs : List Value} {i : Int32} {ws2 : va_W} (he : ws[j]? = some (a, .inl (cS, N, .inr (.inr (.inr (.inr f)))))) (hv : ws[jv]? = some (v, .inr (0, vs))) (hi : i = nI q) (hq : q < N) (hN : N < 2 ^ 31) (h2 : ws.set j (a, .inl (cS, N, .inr (.inr (.inr (.inr (va_up f q (some v))))))) = ws2) (d : decode cc pc = .ok (.aastore, 1)) (kk : rw_WP Z D nL k n (pc + 1) L S ws2) : rw_WP Z D nL k n pc L (.ref v :: .int i :: .ref a :: S) ws := by
  obtain ⟨p, l, e, R, s, m, args, below, meth, c, A, cells, slots, Q⟩ := Z
  obtain ⟨hx, hb, hml, hown, ht, ⟨hK, hAO⟩, hA, hf, hlo, hce, hso⟩ := X
  intro H locs ls hP hD hS hl
  subst hi
  have h3 : ws.set j (a, .inl (cS, N, .inr (.inr (.inr (.inr (va_up f (nI q).toNatClampNeg (some v))))))) = ws2 := by rw [nI_clamp (by omega)]; exact h2
  exact va_astq hx hb hK hP hD hS j 2 jv 0 he rfl hv rfl (vp_in_nI hq hN) d (fun H1 locs1 hP1 hD1 hS1 => kk H1 locs1 ls (h3 ▸ hP1) (h3 ▸ hD1) hS1 hl)
theorem rw_vret (X : rw_CX Z D ty3 cc nL own fr lo CN SN) {a : Nat} {e0 : va_E} {post : va_W → Prop} (Y : rw_RT Z D a e0 k n post) (d : decode cc pc = .ok (.return_, 1)) (hp : post ws) : rw_WP Z D nL k n pc L [] ws := by
  obtain ⟨p, l, e, R, s, m, args, below, meth, c, A, cells, slots, Q⟩ := Z
  obtain ⟨hx, hb, hml, hown, ht, ⟨hK, hAO⟩, hA, hf, hlo, hce, hso⟩ := X
  obtain ⟨rfl, hr, hlk, rfl⟩ := Y
  intro H locs ls hP hD hS hl
  exact W.vret hx hb hr (fun t ht hW => ⟨⟨ws, rfl, hp, by rw [ht]; exact hP, hD⟩, hS.F ht⟩) hS.2.2 d hlk
/-- what a constructor made stands beside the rest -/
theorem rw_join {A : Nat → Prop} {W0 w1 : va_W} {a : Nat} {e0 : va_E} {H H1 : Heap} (hP : va_P D vwCl (W0 ++ [(a, e0)]) H) (hD : va_D A (W0 ++ [(a, e0)])) (hk : ∀ q : Nat, q < H.size → ¬ va_A [(a, e0)] H.size q → H1[q]? = H[q]?) (hF : ∀ q, va_A [(a, e0)] H.size q → A q) (hP1 : va_P D vwCl w1 H1) (hD1 : va_D (va_A [(a, e0)] H.size) w1) : va_P D vwCl (W0 ++ w1) H1 ∧ va_D A (W0 ++ w1) := by
  have hla : (W0 ++ [(a, e0)])[W0.length]? = some (a, e0) := by rw [List.getElem?_append_right (Nat.le_refl _), Nat.sub_self]; rfl
  have hin : ∀ (i : Nat) (q : Nat × va_E), W0[i]? = some q → i < W0.length ∧ (W0 ++ [(a, e0)])[i]? = some q := fun i q h => by
    have hl := (List.getElem?_eq_some_iff.mp h).1
    exact ⟨hl, by rw [List.getElem?_append_left hl]; exact h⟩
  have apart : ∀ (i : Nat) (q : Nat × va_E), W0[i]? = some q → q.1 < H.size ∧ ¬ va_A [(a, e0)] H.size q.1 := fun i q h => by
    obtain ⟨hl, h2⟩ := hin i q h
    have hlt := (hP i q h2).lt
    refine ⟨hlt, fun z => ?_⟩
    rcases z with ⟨j, e1, hj⟩ | z
    · have hj0 := (List.getElem?_eq_some_iff.mp hj).1
      simp only [List.length_cons, List.length_nil] at hj0
      obtain rfl : j = 0 := by omega
      have e2 : (a, e0) = (q.1, e1) := Option.some.inj hj
      have e3 : a = q.1 := congrArg Prod.fst e2
      have := hD.1 i W0.length q (a, e0) h2 hla e3.symm
      omega
    · omega
  refine ⟨va_P.app (fun i q h => ?_) hP1, va_D.app ⟨fun i j x y h1 h2 h3 => ?_, fun i q h => ?_⟩ ⟨hD1.1, fun i q h => hF _ (hD1.2 i q h)⟩ (fun i j x y h1 h2 h3 => ?_)⟩
  · exact (hP i q (hin i q h).2).kept (hk _ (apart i q h).1 (apart i q h).2)
  · exact hD.1 i j x y (hin i x h1).2 (hin j y h2).2 h3
  · exact hD.2 i q (hin i q h).2
  · have := hD1.2 j y h2
    rw [← h3] at this
    exact (apart i x h1).2 this
def rw_cI (y : MethodName) (bytes : ByteArray) (maxL : Nat) : Prop := Cond.instanceMethod y ∈ lw_tbl ∧ Cond.initialized y.cls ∈ lw_tbl ∧ Cond.code y bytes maxL none ∈ lw_tbl ∧ (y.cls ≠ "java/lang/invoke/MethodHandle" ∧ y.cls ≠ "java/lang/invoke/VarHandle" ∧ (parseMethodDescriptor y.desc).map (fun d => d.parameters.length) = some 0) ∧ y.name = "<init>"
theorem rw_blind {D : va_G} {a sz : Nat} {e0 : va_E} : FrameBlind (va_Pc [.ref a] (fun U => U.heap.size = sz ∧ rb_tb U ∧ (va_K D vwCl ty3 U ∧ va_AO "RumourBeds$Sheet" U) ∧ va_P D vwCl [(a, e0)] U.heap)) := fun _ U g mk q => ⟨q.1, q.2.1, q.2.2.1.same (u := U) (U := U.calling g mk _) rfl, ⟨va_K.moved (u := U) (U := U.calling g mk _) (Vm.Alike.refl U.vm) q.2.2.2.1.1, va_AO.moved (u := U) (U := U.calling g mk _) (Vm.Alike.refl U.vm) q.2.2.2.1.2⟩, q.2.2.2.2⟩
theorem rw_callI (X : rw_CX Z D ty3 cc nL own fr lo CN SN) {y : MethodName} {bytes : ByteArray} {maxL mc ms fr2 lo2 a idx : Nat} {e0 : va_E} {post : va_W → Prop} {W0 : va_W} (cv : rw_cI y bytes maxL) (lk : Cond.methodLink own idx y ∈ lw_tbl ∨ ∃ host, Cond.methodLinkNest own idx y host ∈ lw_tbl) (hM : rw_M D ty3 y bytes maxL mc ms fr2 lo2 a e0 post) (he : ws = W0 ++ [(a, e0)]) (hfr : fr2 + 1 ≤ fr) (hl2 : 8 + (maxL + 11) + lo2 ≤ lo) (hc : k + mc ≤ CN) (hs : n + ms ≤ SN) (hcat : (S.map fun v => v.category).sum ≤ 8) (d : decode cc pc = .ok (.invokespecial idx, 3)) (kk : ∀ w1 : va_W, post w1 → rw_WP Z D nL (k + mc) (n + ms) (pc + 3) L S (W0 ++ w1)) : rw_WP Z D nL k n pc L (.ref a :: S) ws := by
  obtain ⟨p, l, e, R, s, m, args, below, meth, c, A, cells, slots, Q⟩ := Z
  obtain ⟨hx, hb, hml, hown, ht, ⟨hK, hAO⟩, hA, hf, hlo, hce, hso⟩ := X
  obtain ⟨c1, c3, c4, c5, c6⟩ := cv
  subst he
  intro H locs ls hP hD hS hl
  have hsz := hS.1
  have hPc : va_P D vwCl [(a, e0)] H := fun i q h => by
    have hi := (List.getElem?_eq_some_iff.mp h).1
    simp only [List.length_cons, List.length_nil] at hi
    obtain rfl : i = 0 := by omega
    refine hP W0.length q ?_
    rw [List.getElem?_append_right (Nat.le_refl _), Nat.sub_self]; exact h
  have hF : ∀ q, va_A [(a, e0)] H.size q → A q := fun q z => by
    rcases z with ⟨j, e1, hj⟩ | z
    · have hi := (List.getElem?_eq_some_iff.mp hj).1
      simp only [List.length_cons, List.length_nil] at hi
      obtain rfl : j = 0 := by omega
      refine hD.2 W0.length (q, e1) ?_
      rw [List.getElem?_append_right (Nat.le_refl _), Nat.sub_self]; exact hj
    · exact hA _ (Nat.le_trans hsz z)
  have hpre : PreS s H (va_Pc [.ref a] (fun U => U.heap.size = H.size ∧ rb_tb U ∧ (va_K D vwCl ty3 U ∧ va_AO "RumourBeds$Sheet" U) ∧ va_P D vwCl [(a, e0)] U.heap)) [.ref a] := ⟨rw_blind, fun U hU hW => ⟨rfl, by rw [hU], ht.warm hW, ⟨va_K.moved hW.alike hK, va_AO.moved hW.alike hAO⟩, by rw [hU]; exact hPc⟩⟩
  have hws : ∀ w ∈ [Cond.code y bytes maxL none], ∀ (a' : Array Value) (U : State), s.WarmedH U.vm → w.before a' U = true := fun w hw a' U hW => by
    rw [List.mem_singleton.mp hw]
    exact word_at hW (Or.inl rfl) (ht.use c4 rfl #[])
  have hlen : ∀ sig, parseMethodDescriptor y.desc = some sig → 0 = sig.parameters.length := fun sig hsg => by
    have h2 := c5.2.2
    rw [hsg] at h2
    exact (Option.some.inj h2).symm
  have run : va_Run p l e R s m args below meth c H locs k n mc ms (F0 m pc ls (.ref a :: S)) S (rw_Qc D a e0 H.size post [Value.ref a].toArray) (va_A [(a, e0)] H.size) := by
    rcases lk with lk | ⟨host, lk⟩
    · exact va_runI (Ts := []) (As := []) ⟨hx, hb, hml, hown, fun _ h => absurd h List.not_mem_nil⟩ (hM l H.size) ⟨⟨rfl, rfl, by show fr2 + 1 ≤ R.frames; omega, by show 8 + (maxL + 11) + lo2 ≤ R.locals; omega, hws, List.mem_cons_self, ht.use c4 rfl _, ht.use c3 rfl _, ⟨c5.1, c5.2.1⟩, hlen, ht.use lk rfl _⟩, c6, ht.use c1 rfl _⟩ hpre rfl rfl hl.1 rfl (lv_room hcat) d ⟨by omega, by omega⟩
    · exact va_runIN (Ts := []) (As := []) ⟨hx, hb, hml, hown, fun _ h => absurd h List.not_mem_nil⟩ (hM l H.size) ⟨⟨⟨rfl, rfl, by show fr2 + 1 ≤ R.frames; omega, by show 8 + (maxL + 11) + lo2 ≤ R.locals; omega, hws, List.mem_cons_self⟩, ht.use c4 rfl _, ht.use c3 rfl _, ⟨c5.1, c5.2.1⟩, hlen, ht.use lk rfl _⟩, c6, ht.use c1 rfl _⟩ hpre rfl rfl hl.1 rfl (lv_room hcat) d ⟨by omega, by omega⟩
  refine va_callv run hS (fun q _ h => hF q h) hF (fun w1 t H1 locs1 ht1 hvm hp hB hz1 hk1 hS1 => ?_)
  obtain ⟨hP1, hD1⟩ := hB
  rw [ht1] at hP1
  obtain ⟨hP2, hD2⟩ := rw_join hP hD hk1 hF hP1 hD1
  exact kk w1 hp H1 locs1 ls hP2 hD2 hS1 hl
end RW
/-! a place of a house, told anywhere -/
theorem rw_part (l : Launch) (r w : Nat) : Met l yX5_partOf [Cond.code yX5_partOf cX5_partOf 2 (some .int)] { frames := 0, cells := 0, slots := 0, locals := 0 } (va_Pc [.int (nI r), .int (nI w)] (fun _ => True)) (va_Qi (fun (x : Int32) (_ : Unit) => x = nI (3 + 3 * r + w)) (fun _ _ => True) (fun _ => False)) 0 0 (fun _ => False) := by
  refine Met.ofW (cc := cX5_partOf) (maxL := 2) (ret := some .int) (by decide) rfl ?_
  intro p e s m args below meth c s₁ B hml hv
  obtain ⟨rfl, -⟩ := hv
  have hx := B.exec
  have hb := B.bytes
  have hr := B.returns
  have hl := lv_entry [.int (nI r), .int (nI w)] (n := 2) (Nat.le_of_ble_eq_true rfl)
  rw [lg_entry_eq]
  generalize (lg_sl ([.int (nI r), .int (nI w)]) ++ List.replicate (2 - (lg_sl ([.int (nI r), .int (nI w)])).length) Slot.unset).toArray = ls at hl ⊢
  have hl : lv_has ls 2 [(0, .int (nI r)), (1, .int (nI w))] := hl
  have hS : va_S (fun _ => False) s.heap s.heap [] := va_S.rf
  refine lv_iconst (v := 3) hx hb dX5_partOf_0 (by decide) ?_
  refine lv_iconst (v := 3) hx hb dX5_partOf_1 (by decide) ?_
  refine lv_iload_n hx hb dX5_partOf_2 rfl (lv_at hl 0 rfl) ?_
  refine lv_imul hx hb dX5_partOf_3 ?_
  refine lv_iadd hx hb dX5_partOf_4 ?_
  refine lv_iload_n hx hb dX5_partOf_5 rfl (lv_at hl 1 rfl) ?_
  refine lv_iadd hx hb dX5_partOf_6 ?_
  exact W.iret hx hb hr (fun t ht hW => ⟨⟨_, (), rfl, sp_part r w, trivial⟩, hS.F ht⟩) hS.2.2 dX5_partOf_7 B.notSynchronized
theorem rw_callP {Z : rb_Z} {D : va_G} {ty3 : List (ClassId × FieldType)} {cc : ByteArray} {nL k n pc fr lo CN SN : Nat} {own : String} {L S : List Value} {ws : va_W} (X : rw_CX Z D ty3 cc nL own fr lo CN SN) (r w : Nat) {i j : Int32} {idx : Nat} (hi : i = nI r) (hj : j = nI w) (lk : Cond.methodLink own idx yX5_partOf ∈ lw_tbl) (hfr : 1 ≤ fr) (hl2 : 21 ≤ lo) (hk : k ≤ CN) (hn : n ≤ SN) (hcat : (S.map fun v => v.category).sum ≤ 8) (d : decode cc pc = .ok (.invokestatic idx, 3)) (kk : rw_WP Z D nL k n (pc + 3) L (.int (nI (3 + 3 * r + w)) :: S) ws) : rw_WP Z D nL k n pc L (.int j :: .int i :: S) ws := by
  obtain ⟨p, l, e, R, s, m, args, below, meth, c, A, cells, slots, Q⟩ := Z
  obtain ⟨hx, hb, hml, hown, ht, ⟨hK, hAO⟩, hA, hf, hlo, hce, hso⟩ := X
  subst hi; subst hj
  intro H locs ls hP hD hS hl
  obtain ⟨c1, c3, c4, c5, -⟩ := cvX5_partOf
  have hws : ∀ w' ∈ [Cond.code yX5_partOf cX5_partOf 2 (some .int)], ∀ (a' : Array Value) (U : State), s.WarmedH U.vm → w'.before a' U = true := fun w' hw a' U hW => by
    rw [List.mem_singleton.mp hw]
    exact word_at hW (Or.inl rfl) (ht.use c4 rfl #[])
  have hlen : ∀ sig, parseMethodDescriptor yX5_partOf.desc = some sig → 2 = sig.parameters.length := fun sig hsg => by
    have h2 := c5.2.2
    rw [hsg] at h2
    exact (Option.some.inj h2).symm
  have run : va_Run p l e R s m args below meth c H locs k n 0 0 (F0 m pc ls (.int (nI w) :: .int (nI r) :: S)) S (va_Qi (fun (x : Int32) (_ : Unit) => x = nI (3 + 3 * r + w)) (fun _ _ => True) (fun _ => False) [Value.int (nI r), Value.int (nI w)].toArray) (fun _ => False) :=
    va_runS (Ts := []) (As := [.int (nI r), .int (nI w)]) ⟨hx, hb, hml, hown, fun _ h => absurd h List.not_mem_nil⟩ (rw_part l r w) ⟨⟨rfl, rfl, by show 0 + 1 ≤ R.frames; omega, by show 8 + (2 + 11) + 0 ≤ R.locals; omega, hws, List.mem_cons_self, ht.use c4 rfl _, ht.use c3 rfl _, ⟨c5.1, c5.2.1⟩, hlen, ht.use lk rfl _⟩, ht.use c1 rfl _⟩ ⟨fun _ U g mk q => ⟨q.1, trivial⟩, fun U hU hW => ⟨rfl, trivial⟩⟩ rfl rfl hl.1 rfl (lv_room hcat) d ⟨by omega, by omega⟩
  refine va_calli run hS (fun q _ h => h.elim) (fun q h => h.elim) (fun x u t H1 locs1 ht1 hvm hw hB hz1 hk1 hS1 => ?_)
  have hw : x = nI (3 + 3 * r + w) := hw
  subst hw
  have hP1 : va_P D vwCl ws H1 := hP.kept (fun i q h => hk1 q.1 ((hP i q h).lt) (fun z => z))
  exact kk H1 locs1 ls hP1 hD hS1 hl
