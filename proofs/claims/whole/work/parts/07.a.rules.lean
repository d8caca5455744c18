/-! constructors: a judgement over a list of cells; objects and arrays are made -/
abbrev Gc : Type := va_G × (Nat → ClassId)
abbrev tyC (d : Gc) : List (ClassId × FieldType) := [(d.2 0, .int), (d.2 1, .long), (d.2 2, .object RX0), (d.2 3, .object RX8)]
def AOs (U : State) : Prop := va_AO RX0 U ∧ va_AO RX8 U
theorem AOs.moved {u U : State} (hvm : u.vm.Alike U.vm) (h : AOs u) : AOs U := ⟨va_AO.moved hvm h.1, va_AO.moved hvm h.2⟩
theorem AOs.same {u U : State} (hvm : u.vm = U.vm) (h : AOs u) : AOs U := h.moved (by rw [hvm]; exact Vm.Alike.refl _)
def Y (z : Fz) (d : Gc) (A : Nat → Prop) (nL : Nat) (ws : va_W) (ls : List (Nat × Value)) (st : List Value) (pc cells slots : Nat) : Prop :=
  match z with
  | (p, l, e, R, s, m, args, below, meth, c, _, _, Q) => ∀ (H : Heap) (locs : List Loc) (la : Array Slot), va_P d.1 vwCl ws H → va_D A ws → va_S A s.heap H locs → lv_has la nL ls → W p l e R s m args below meth c H locs cells slots Q (F0 m pc la st)
def OkC (z : Fz) (d : Gc) (A : Nat → Prop) (cc : ByteArray) (nL : Nat) (own : String) (Ts : List Cond) (fr lo mc ms : Nat) : Prop :=
  match z with
  | (p, _, _, R, s, m, args, _, _, c, _, _, _) => CallFix p m c cc nL s args Ts own ∧ va_K d.1 vwCl (tyC d) s ∧ Nest s ∧ AOs s ∧ fr ≤ R.frames ∧ lo ≤ R.locals ∧ mc ≤ R.cells ∧ ms ≤ R.slots ∧ ∀ q : Nat, s.heap.size ≤ q → A q
def Ini (z : Fz) : Prop := match z with | (_, _, _, _, _, _, _, _, meth, _, _, _, _) => meth.name = "<init>"
def Qcn (d : Gc) (w1 : (Nat → Nat) → va_W) (A : Nat → Prop) : Array Value → State → Outcome → State → Prop := va_Qv (fun _ : Unit => True) (fun _ t => ∃ q : Nat → Nat, va_P d.1 vwCl (w1 q) t.heap ∧ va_D A (w1 q)) A
def Pcn (d : Gc) (av : List Value) (h0 : Nat) (e0 : va_E) (sz : Nat) : Array Value → State → Prop := va_Pc av (fun U => U.heap.size = sz ∧ va_P d.1 vwCl [(h0, e0)] U.heap ∧ va_K d.1 vwCl (tyC d) U ∧ Nest U ∧ AOs U ∧ va_D (fun _ => True) [(h0, e0)])
def Cn (l : Launch) (d : Gc) (y : MethodName) (ws : List Cond) (fr lo mc ms : Nat) (h0 : Nat) (e0 : va_E) (sz : Nat) (av : List Value) (w1 : (Nat → Nat) → va_W) : Prop :=
  Met l y ws { frames := fr, cells := mc, slots := ms, locals := lo } (Pcn d (.ref h0 :: av) h0 e0 sz) (Qcn d w1 (va_A [(h0, e0)] sz)) mc ms (va_A [(h0, e0)] sz)
def Rc (z : Fz) (d : Gc) (w1 : (Nat → Nat) → va_W) (A : Nat → Prop) (mc ms : Nat) : Prop :=
  match z with
  | (_, _, _, _, s, _, args, below, meth, _, _, _, Q) => Q = MQ below (Qcn d w1 A) args s mc ms A ∧ meth.sig.returnType = none ∧ meth.locks = false
theorem Cn.of {l : Launch} {d : Gc} {y : MethodName} {ws ws' : List Cond} {fr lo mc ms : Nat} {h0 : Nat} {e0 : va_E} {sz : Nat} {av : List Value} {w1 : (Nat → Nat) → va_W} {cc : ByteArray} {nL : Nat} (hy : plainName y.cls = true) (hw : ws = Cond.code y cc nL none :: ws') (hyi : y.name = "<init>")
    (hn : (lg_sl (.ref h0 :: av)).length ≤ nL) (body : ∀ (z : Fz) (A : Nat → Prop), z.2.1 = l → OkC z d A cc nL y.cls ws fr lo mc ms → Ini z → Rc z d w1 A mc ms → Y z d A nL [(h0, e0)] (lv_args 0 (.ref h0 :: av)) [] 0 0 0) : Cn l d y ws fr lo mc ms h0 e0 sz av w1 := by
  refine Met.ofW (cc := cc) (maxL := nL) (ret := none) hy hw ?_
  intro p e s m args below meth c s₁ B hml hv
  obtain ⟨rfl, hsz, hP, hK, hN9, hO, hD0⟩ := hv
  have hl := lv_entry (.ref h0 :: av) hn
  rw [lg_entry_eq]
  subst hsz
  have hD := hD0.self (sz := s.heap.size)
  have hin : meth.name = "<init>" := by rw [← hyi]; exact (name_of_methodNamed B.named B.method).1
  exact body (p, l, e, _, s, m, _, below, meth, c, mc, ms, MQ below (Qcn d w1 (va_A [(h0, e0)] s.heap.size)) _ s mc ms (va_A [(h0, e0)] s.heap.size)) (va_A [(h0, e0)] s.heap.size) rfl
    ⟨⟨B.exec, B.bytes, hml, findClass_of_methodNamed B.named, atoms_spec (ws := ws) B.pre⟩, hK, hN9, hO, Nat.le_refl _, Nat.le_refl _, Nat.le_refl _, Nat.le_refl _, fun q h => Or.inr h⟩ hin ⟨rfl, B.returns, B.notSynchronized⟩ s.heap [] _ hP hD va_S.rf hl
section YR
variable {z : Fz} {d : Gc} {A : Nat → Prop} {cc : ByteArray} {nL : Nat} {own : String} {Ts : List Cond} {fr lo mc ms : Nat} {ws ws' : va_W} {ls ls' : List (Nat × Value)} {st : List Value} {pc cells slots : Nat}
theorem y_ws (h : ws = ws') (kk : Y z d A nL ws' ls st pc cells slots) : Y z d A nL ws ls st pc cells slots := h ▸ kk
theorem y_aload_n (ok : OkC z d A cc nL own Ts fr lo mc ms) {k : Fin 4} {i x : Nat} (j : Nat) (hdg : decode cc pc = .ok (.aload_n k, 1)) (hi : (k : Nat) = i) (hj : ls[j]? = some (i, .ref x)) (kk : Y z d A nL ws ls (.ref x :: st) (pc + 1) cells slots) : Y z d A nL ws ls st pc cells slots := by
  obtain ⟨p, l, e, R, s, m, args, below, meth, c, c0, s0, Q⟩ := z
  obtain ⟨⟨hx, hb, hml, hown, hts⟩, -⟩ := ok
  intro H locs la hP hD hS hl
  exact lv_aload_n hx hb hdg hi (lv_at hl j hj) (kk H locs la hP hD hS hl)
theorem y_iload_n (ok : OkC z d A cc nL own Ts fr lo mc ms) {k : Fin 4} {i : Nat} {x : Int32} (j : Nat) (hdg : decode cc pc = .ok (.iload_n k, 1)) (hi : (k : Nat) = i) (hj : ls[j]? = some (i, .int x)) (kk : Y z d A nL ws ls (.int x :: st) (pc + 1) cells slots) : Y z d A nL ws ls st pc cells slots := by
  obtain ⟨p, l, e, R, s, m, args, below, meth, c, c0, s0, Q⟩ := z
  obtain ⟨⟨hx, hb, hml, hown, hts⟩, -⟩ := ok
  intro H locs la hP hD hS hl
  exact lv_iload_n hx hb hdg hi (lv_at hl j hj) (kk H locs la hP hD hS hl)
theorem y_iconst (ok : OkC z d A cc nL own Ts fr lo mc ms) {n : Int} (hdg : decode cc pc = .ok (.iconst n, 1)) (kk : Y z d A nL ws ls (iv n :: st) (pc + 1) cells slots) : Y z d A nL ws ls st pc cells slots := by
  obtain ⟨p, l, e, R, s, m, args, below, meth, c, c0, s0, Q⟩ := z
  obtain ⟨⟨hx, hb, hml, hown, hts⟩, -⟩ := ok
  intro H locs la hP hD hS hl
  exact lv_iconst hx hb hdg rfl (kk H locs la hP hD hS hl)
theorem y_bipush (ok : OkC z d A cc nL own Ts fr lo mc ms) {n : Int} (hv : (Int8.ofInt n).toInt32 = iI n) (hdg : decode cc pc = .ok (.bipush n, 2)) (kk : Y z d A nL ws ls (iv n :: st) (pc + 2) cells slots) : Y z d A nL ws ls st pc cells slots := by
  obtain ⟨p, l, e, R, s, m, args, below, meth, c, c0, s0, Q⟩ := z
  obtain ⟨⟨hx, hb, hml, hown, hts⟩, -⟩ := ok
  intro H locs la hP hD hS hl
  exact lv_bipush hx hb hdg hv (kk H locs la hP hD hS hl)
theorem y_sipush (ok : OkC z d A cc nL own Ts fr lo mc ms) {n : Int} (hv : (Int16.ofInt n).toInt32 = iI n) (hdg : decode cc pc = .ok (.sipush n, 3)) (kk : Y z d A nL ws ls (iv n :: st) (pc + 3) cells slots) : Y z d A nL ws ls st pc cells slots := by
  obtain ⟨p, l, e, R, s, m, args, below, meth, c, c0, s0, Q⟩ := z
  obtain ⟨⟨hx, hb, hml, hown, hts⟩, -⟩ := ok
  intro H locs la hP hD hS hl
  exact lv_sipush hx hb hdg hv (kk H locs la hP hD hS hl)
theorem y_dup (ok : OkC z d A cc nL own Ts fr lo mc ms) {v : Value} (hv : v.category = 1) (hdg : decode cc pc = .ok (.dup, 1)) (kk : Y z d A nL ws ls (v :: v :: st) (pc + 1) cells slots) : Y z d A nL ws ls (v :: st) pc cells slots := by
  obtain ⟨p, l, e, R, s, m, args, below, meth, c, c0, s0, Q⟩ := z
  obtain ⟨⟨hx, hb, hml, hown, hts⟩, -⟩ := ok
  intro H locs la hP hD hS hl
  exact lv_dup hx hb hdg hv (kk H locs la hP hD hS hl)
theorem y_astore_n (ok : OkC z d A cc nL own Ts fr lo mc ms) {k : Fin 4} {i x : Nat} (ls' : List (Nat × Value)) (hdg : decode cc pc = .ok (.astore_n k, 1)) (hi : (k : Nat) = i) (hn : i < nL) (hq : (i, Value.ref x) :: ls.filter (fun q => !(q.1 == i) && !(q.1 + 1 == i && q.2.category == 2)) = ls') (kk : Y z d A nL ws ls' st (pc + 1) cells slots) : Y z d A nL ws ls (.ref x :: st) pc cells slots := by
  obtain ⟨p, l, e, R, s, m, args, below, meth, c, c0, s0, Q⟩ := z
  obtain ⟨⟨hx, hb, hml, hown, hts⟩, -⟩ := ok
  intro H locs la hP hD hS hl
  exact lv_astore_n hx hb hdg hi hl hn hq (fun la hl => kk H locs la hP hD hS hl)
theorem y_obj (ok : OkC z d A cc nL own Ts fr lo mc ms) {ix x : Nat} (h1 : Cond.methodLink own ix objectInit ∈ Ts) (h2 : Cond.instanceMethod objectInit ∈ Ts) (h3 : Cond.code objectInit ⟨#[0xb1]⟩ 1 none ∈ Ts) (hR : 1 ≤ fr ∧ (st.map fun v => v.category).sum + 12 ≤ lo) (hdg : decode cc pc = .ok (.invokespecial ix, 3)) (kk : Y z d A nL ws ls st (pc + 3) cells slots) : Y z d A nL ws ls (.ref x :: st) pc cells slots := by
  obtain ⟨p, l, e, R, s, m, args, below, meth, c, c0, s0, Q⟩ := z
  obtain ⟨⟨hx, hb, hml, hown, hts⟩, hK, hN9, hO, hfr, hlo, hmc, hms, hA⟩ := ok
  intro H locs la hP hD hS hl
  refine W.objInit hx hb hown (hts _ h1) (hts _ h2) (hts _ h3) rfl (by rw [hml]; exact hl.1) rfl hdg (by omega) (by show 2 * 0 + _ + 12 ≤ R.locals; omega) ?_
  exact kk H locs la hP hD hS hl
theorem y_new (ok : OkC z d A cc nL own Ts fr lo mc ms) {C : String} {T : u_T} {N ci ix : Nat} (hin : ∀ w ∈ u_ws C T N, w ∈ Ts) (ty : Nat → FieldType) (hty : ∀ k, k < N → parseFieldDescriptor (T k).2.2.1 = some (ty k)) (hcl : Cond.classLink own ix C ∈ Ts) (hinst : Cond.instantiable C N ∈ Ts) (hini : Cond.initialized C ∈ Ts) (hc : vwCl[ci]? = some (C, T, N)) {fs : List Value} (hfs : ∀ j, j < N → defaultValue (ty j) = vp_V fs j) (hcs : cells + 1 ≤ mc ∧ slots + N ≤ ms)
    (hdg : decode cc pc = .ok (.new ix, 3)) (kk : ∀ q : Nat, Y z d A nL (ws ++ [(q, .inr (ci, fs))]) ls (.ref q :: st) (pc + 3) (cells + 1) (slots + N)) : Y z d A nL ws ls st pc cells slots := by
  obtain ⟨p, l, e, R, s, m, args, below, meth, c, c0, s0, Q⟩ := z
  obtain ⟨⟨hx, hb, hml, hown, hts⟩, hK, hN9, hO, hfr, hlo, hmc, hms, hA⟩ := ok
  intro H locs la hP hD hS hl
  exact va_new hx hb hts hin ty hty hown (hts _ hcl) (hts _ hinst) (hts _ hini) hK hP hD hS hA hc hfs (by omega) (by omega) hdg (fun q H1 hP1 hD1 hS1 => kk q H1 locs la hP1 hD1 hS1 hl)
theorem y_newi (ok : OkC z d A cc nL own Ts fr lo mc ms) {n : Int} {N' : Nat} (harr : Cond.arrayClass .int ∈ Ts) (hn : 0 ≤ n ∧ n ≤ 1000) (hN : n.toNat = N') (hcs : cells + 1 ≤ mc ∧ slots + N' ≤ ms) (hdg : decode cc pc = .ok (.newarray .int, 2))
    (kk : ∀ q : Nat, Y z d A nL (ws ++ [(q, .inl (d.2 0, N', .inl (fun _ => iI 0)))]) ls (.ref q :: st) (pc + 2) (cells + 1) (slots + N')) : Y z d A nL ws ls (iv n :: st) pc cells slots := by
  obtain ⟨p, l, e, R, s, m, args, below, meth, c, c0, s0, Q⟩ := z
  obtain ⟨⟨hx, hb, hml, hown, hts⟩, hK, hN9, hO, hfr, hlo, hmc, hms, hA⟩ := ok
  intro H locs la hP hD hS hl
  refine va_newa (atype := .int) (ty := .int) (a0 := (N', .inl (fun _ => iI 0))) (N' := N') hx hb (hts _ harr) rfl hK hP hD hS hA (fun cA => by rw [vp_cell_i]; rfl) (by rw [iI_zero, iI_lt ⟨by omega, by omega⟩ ⟨by omega, by omega⟩]; omega) (by rw [iI_cl ⟨by omega, by omega⟩]; exact hN) (by show N' * 4 ≤ 536870912; omega) (by omega) (by omega) hdg (fun q cA H1 hK1 hP1 hD1 hS1 => ?_)
  have h1 : s.vm.findClass ("[" ++ (FieldType.int).toString) = some cA := (hK1.2 4 (cA, .int) rfl).2
  have h2 : s.vm.findClass ("[" ++ (FieldType.int).toString) = some (d.2 0) := (hK.2 0 (d.2 0, .int) rfl).2
  have h3 : cA = d.2 0 := Option.some.inj (h1.symm.trans h2)
  subst h3
  exact kk q H1 locs la hP1 hD1 hS1 hl
theorem y_newl (ok : OkC z d A cc nL own Ts fr lo mc ms) {n : Int} {N' : Nat} (harr : Cond.arrayClass .long ∈ Ts) (hn : 0 ≤ n ∧ n ≤ 1000) (hN : n.toNat = N') (hcs : cells + 1 ≤ mc ∧ slots + N' ≤ ms) (hdg : decode cc pc = .ok (.newarray .long, 2))
    (kk : ∀ q : Nat, Y z d A nL (ws ++ [(q, .inl (d.2 1, N', .inr (.inl (fun _ => lI 0))))]) ls (.ref q :: st) (pc + 2) (cells + 1) (slots + N')) : Y z d A nL ws ls (iv n :: st) pc cells slots := by
  obtain ⟨p, l, e, R, s, m, args, below, meth, c, c0, s0, Q⟩ := z
  obtain ⟨⟨hx, hb, hml, hown, hts⟩, hK, hN9, hO, hfr, hlo, hmc, hms, hA⟩ := ok
  intro H locs la hP hD hS hl
  refine va_newa (atype := .long) (ty := .long) (a0 := (N', .inr (.inl (fun _ => lI 0)))) (N' := N') hx hb (hts _ harr) rfl hK hP hD hS hA (fun cA => by rw [vp_cell_l]; rfl) (by rw [iI_zero, iI_lt ⟨by omega, by omega⟩ ⟨by omega, by omega⟩]; omega) (by rw [iI_cl ⟨by omega, by omega⟩]; exact hN) (by show N' * 8 ≤ 536870912; omega) (by omega) (by omega) hdg (fun q cA H1 hK1 hP1 hD1 hS1 => ?_)
  have h1 : s.vm.findClass ("[" ++ (FieldType.long).toString) = some cA := (hK1.2 4 (cA, .long) rfl).2
  have h2 : s.vm.findClass ("[" ++ (FieldType.long).toString) = some (d.2 1) := (hK.2 1 (d.2 1, .long) rfl).2
  have h3 : cA = d.2 1 := Option.some.inj (h1.symm.trans h2)
  subst h3
  exact kk q H1 locs la hP1 hD1 hS1 hl
theorem y_newq (ok : OkC z d A cc nL own Ts fr lo mc ms) {C : String} (t0 : Nat) {n : Int} {N' ix : Nat} (hcl : Cond.classLink own ix C ∈ Ts) (hC : ∀ U : State, AOs U → va_AO C U) {cA0 : ClassId} (ht : (tyC d)[t0]? = some (cA0, .object C)) (hn : 0 ≤ n ∧ n ≤ 1000) (hN : n.toNat = N') (hcs : cells + 1 ≤ mc ∧ slots + N' ≤ ms) (hdg : decode cc pc = .ok (.anewarray ix, 3))
    (kk : ∀ q : Nat, Y z d A nL (ws ++ [(q, .inl (cA0, N', .inr (.inr (.inr (.inr (fun _ => none))))))]) ls (.ref q :: st) (pc + 3) (cells + 1) (slots + N')) : Y z d A nL ws ls (iv n :: st) pc cells slots := by
  obtain ⟨p, l, e, R, s, m, args, below, meth, c, c0, s0, Q⟩ := z
  obtain ⟨⟨hx, hb, hml, hown, hts⟩, hK, hN9, hO, hfr, hlo, hmc, hms, hA⟩ := ok
  intro H locs la hP hD hS hl
  refine va_newq hx hb hown (hts _ hcl) (hC _ hO) hK hP hD hS hA (N' := N') (by rw [iI_zero, iI_lt ⟨by omega, by omega⟩ ⟨by omega, by omega⟩]; omega) (by rw [iI_cl ⟨by omega, by omega⟩]; exact hN) (by omega) (by omega) (by omega) hdg (fun q cA H1 hK1 hP1 hD1 hS1 => ?_)
  obtain ⟨k1, c1, -, -, -, h1⟩ := (hK1.2 4 (cA, .object C) rfl).2
  obtain ⟨k2, c2, -, -, -, h2⟩ := (hK.2 t0 (cA0, .object C) ht).2
  have h3 : cA = cA0 := Option.some.inj (h1.symm.trans h2)
  subst h3
  exact kk q H1 locs la hP1 hD1 hS1 hl
theorem y_putF (ok : OkC z d A cc nL own Ts fr lo mc ms) (hin2 : Ini z) {ref C : String} {T : u_T} {N ci ix a : Nat} (hin : ∀ w ∈ u_ws C T N, w ∈ Ts) (ty0 : Nat → FieldType) (hty : ∀ k, k < N → parseFieldDescriptor (T k).2.2.1 = some (ty0 k)) (hnm : ∀ a, a < N → ∀ b, b < N → a ≠ b → (T a).2.1 ≠ (T b).2.1) (q0 : Nat) {fs : List Value} (he : ws[q0]? = some (a, .inr (ci, fs))) (hc : vwCl[ci]? = some (C, T, N)) (k : Nat) (hk : k < N) (hlink : Cond.fieldLink own ix ref (T k).2.1 (T k).2.2.1 ∈ Ts) (hsame : (T k).1 = ref) (hfin : (T k).2.2.2 = true) (hdecl : (T k).1 = own) {ty : FieldType} {v : Value} (hd : parseFieldDescriptor (T k).2.2.1 = some ty) (hn : narrow ty v = v) (hfit : fits ty v = true) (hlen : k < fs.length)
    (hdg : decode cc pc = .ok (.putfield ix, 3)) (hw : ws.set q0 (a, .inr (ci, fs.set k v)) = ws') (kk : Y z d A nL ws' ls st (pc + 3) cells slots) : Y z d A nL ws ls (v :: .ref a :: st) pc cells slots := by
  obtain ⟨p, l, e, R, s, m, args, below, meth, c, c0, s0, Q⟩ := z
  obtain ⟨⟨hx, hb, hml, hown, hts⟩, hK, hN9, hO, hfr, hlo, hmc, hms, hA⟩ := ok
  intro H locs la hP hD hS hl
  exact va_putF hx hb hts hin ty0 hty hnm hown hK hP hD hS q0 he hc k hk (hts _ hlink) (fun x h => by rw [← hsame]; exact h) hfin hin2 hdecl hd hn hfit hlen hdg (fun H1 locs1 hP1 hD1 hS1 => kk H1 locs1 la (hw ▸ hP1) (hw ▸ hD1) hS1 hl)
theorem y_put (ok : OkC z d A cc nL own Ts fr lo mc ms) {ref C : String} {T : u_T} {N ci ix a : Nat} (hin : ∀ w ∈ u_ws C T N, w ∈ Ts) (ty0 : Nat → FieldType) (hty : ∀ k, k < N → parseFieldDescriptor (T k).2.2.1 = some (ty0 k)) (hnm : ∀ a, a < N → ∀ b, b < N → a ≠ b → (T a).2.1 ≠ (T b).2.1) (q0 : Nat) {fs : List Value} (he : ws[q0]? = some (a, .inr (ci, fs))) (hc : vwCl[ci]? = some (C, T, N)) (k : Nat) (hk : k < N) (hlink : Cond.fieldLink own ix ref (T k).2.1 (T k).2.2.1 ∈ Ts) (hsame : (T k).1 = ref) (hfin : (T k).2.2.2 = false) {ty : FieldType} {v : Value} (hd : parseFieldDescriptor (T k).2.2.1 = some ty) (hn : narrow ty v = v) (hfit : fits ty v = true) (hlen : k < fs.length)
    (hdg : decode cc pc = .ok (.putfield ix, 3)) (hw : ws.set q0 (a, .inr (ci, fs.set k v)) = ws') (kk : Y z d A nL ws' ls st (pc + 3) cells slots) : Y z d A nL ws ls (v :: .ref a :: st) pc cells slots := by
  obtain ⟨p, l, e, R, s, m, args, below, meth, c, c0, s0, Q⟩ := z
  obtain ⟨⟨hx, hb, hml, hown, hts⟩, hK, hN9, hO, hfr, hlo, hmc, hms, hA⟩ := ok
  intro H locs la hP hD hS hl
  exact va_put hx hb hts hin ty0 hty hnm hown hK hP hD hS q0 he hc k hk (hts _ hlink) (fun x h => by rw [← hsame]; exact h) hfin hd hn hfit hlen hdg (fun H1 locs1 hP1 hD1 hS1 => kk H1 locs1 la (hw ▸ hP1) (hw ▸ hD1) hS1 hl)
theorem y_astq (ok : OkC z d A cc nL own Ts fr lo mc ms) (q0 t0 qk ci : Nat) {cA : ClassId} {r : vw_C} {n v a : Nat} {vs : List Value} {f : Nat → Option Nat} (ha : ws[q0]? = some (a, .inl (cA, n, .inr (.inr (.inr (.inr f)))))) (ht : (tyC d)[t0]? = some (cA, .object r.1)) (hv : ws[qk]? = some (v, .inr (ci, vs))) (hc : vwCl[ci]? = some r) {i : Int} (h0 : 0 ≤ i) (h1 : i < n) (hn : n ≤ 1000) (hdg : decode cc pc = .ok (.aastore, 1))
    (hw : ws.set q0 (a, .inl (cA, n, .inr (.inr (.inr (.inr (va_up f i.toNat (some v))))))) = ws') (kk : Y z d A nL ws' ls st (pc + 1) cells slots) : Y z d A nL ws ls (.ref v :: iv i :: .ref a :: st) pc cells slots := by
  obtain ⟨p, l, e, R, s, m, args, below, meth, c, c0, s0, Q⟩ := z
  obtain ⟨⟨hx, hb, hml, hown, hts⟩, hK, hN9, hO, hfr, hlo, hmc, hms, hA⟩ := ok
  intro H locs la hP hD hS hl
  refine va_astq hx hb hK hP hD hS q0 t0 qk ci ha ht hv hc (iI_in h0 h1 (by omega)) hdg (fun H1 locs1 hP1 hD1 hS1 => ?_)
  rw [iI_cl ⟨by omega, by omega⟩, hw] at hP1 hD1
  exact kk H1 locs1 la hP1 hD1 hS1 hl
theorem y_iast (ok : OkC z d A cc nL own Ts fr lo mc ms) (q0 : Nat) {n a : Nat} {f : Nat → Int32} (ha : ws[q0]? = some (a, .inl (d.2 0, n, .inl f))) {i x : Int} (h0 : 0 ≤ i) (h1 : i < n) (hn : n ≤ 1000) (hdg : decode cc pc = .ok (.iastore, 1))
    (hw : ws.set q0 (a, .inl (d.2 0, n, .inl (upd f i.toNat (iI x)))) = ws') (kk : Y z d A nL ws' ls st (pc + 1) cells slots) : Y z d A nL ws ls (iv x :: iv i :: .ref a :: st) pc cells slots := by
  obtain ⟨p, l, e, R, s, m, args, below, meth, c, c0, s0, Q⟩ := z
  obtain ⟨⟨hx, hb, hml, hown, hts⟩, hK, hN9, hO, hfr, hlo, hmc, hms, hA⟩ := ok
  intro H locs la hP hD hS hl
  refine va_iast hx hb hK hP hD hS q0 0 ha rfl (iI_in h0 h1 (by omega)) hdg (fun H1 locs1 hP1 hD1 hS1 => ?_)
  rw [iI_cl ⟨by omega, by omega⟩, hw] at hP1 hD1
  exact kk H1 locs1 la hP1 hD1 hS1 hl
theorem y_ret {w1 : (Nat → Nat) → va_W} (ok : OkC z d A cc nL own Ts fr lo mc ms) (fin : Rc z d w1 A mc ms) (q : Nat → Nat) (hc : cells ≤ mc ∧ slots ≤ ms) (hdg : decode cc pc = .ok (.return_, 1)) (hw : ws = w1 q) : Y z d A nL ws ls [] pc cells slots := by
  obtain ⟨p, l, e, R, s, m, args, below, meth, c, c0, s0, Q⟩ := z
  obtain ⟨⟨hx, hb, hml, hown, hts⟩, hK, hN9, hO, hfr, hlo, hmc, hms, hA⟩ := ok
  intro H locs la hP hD hS hl
  obtain ⟨rfl, hr, hlk⟩ := fin
  subst hw
  refine W.widen hc.1 hc.2 ?_
  exact W.vret hx hb hr (fun t ht hW => ⟨⟨(), rfl, trivial, q, by rw [ht]; exact hP, hD⟩, hS.F ht⟩) hS.2.2 hdg hlk
theorem Pcn_blind {av : List Value} {h0 sz : Nat} {e0 : va_E} : FrameBlind (Pcn d av h0 e0 sz) := fun a U gg mk q => ⟨q.1, q.2.1, q.2.2.1, va_K.moved (u := U) (U := U.calling gg mk a) (Vm.Alike.refl U.vm) q.2.2.2.1, Nest.same (U := U.calling gg mk a) rfl q.2.2.2.2.1, AOs.same (U := U.calling gg mk a) rfl q.2.2.2.2.2.1, q.2.2.2.2.2.2⟩
/-- a constructor's call: private, of a nest mate -/
theorem y_iniN (ok : OkC z d A cc nL own Ts fr lo mc ms) {y : MethodName} {bytes : ByteArray} {maxL fr' lo' mc' ms' ix na h0 : Nat} {e0 : va_E} {av : List Value} {w1 : (Nat → Nat) → va_W} {wsC wsC' : List Cond} {wr : va_W} (hM : ∀ sz : Nat, Cn z.2.1 d y wsC fr' lo' mc' ms' h0 e0 sz av w1) (hG : GoodIn Ts wsC) (hq : (own, ix, y) ∈ nestW) (hini : Cond.initialized y.cls ∈ Ts) (hins : Cond.instanceMethod y ∈ Ts) (hw : wsC = Cond.code y bytes maxL none :: wsC') (hy1 : y.name = "<init>")
    (hd : y.cls ≠ "java/lang/invoke/MethodHandle" ∧ y.cls ≠ "java/lang/invoke/VarHandle" ∧ (parseMethodDescriptor y.desc).map (fun d => d.parameters.length) = some na) (hna : av.length = na) (hR : fr' + 1 ≤ fr ∧ 8 + (maxL + 11) + lo' ≤ lo ∧ cells + mc' ≤ mc ∧ slots + ms' ≤ ms) (rest : List Value) (hst : st = av.reverse ++ .ref h0 :: rest) (hcat : (rest.map fun v => v.category).sum ≤ 8)
    (i0 : Nat) (isR : List Nat) (h1 : [i0].map (fun i => ws[i]?) = [(h0, e0)].map some) (h2 : isR.map (fun i => ws[i]?) = wr.map some) (h3 : va_nd isR = true) (h4 : ∀ i ∈ isR, i ∉ [i0]) (hdg : decode cc pc = .ok (.invokespecial ix, 3)) (kk : ∀ q : Nat → Nat, Y z d A nL (wr ++ w1 q) ls rest (pc + 3) (cells + mc') (slots + ms')) : Y z d A nL ws ls st pc cells slots := by
  subst hna
  obtain ⟨p, l, e, R, s, m, args, below, meth, c, c0, s0, Q⟩ := z
  obtain ⟨⟨hx, hb, hml, hown, hts⟩, hK, hN9, hO, hfr, hlo, hmc, hms, hA⟩ := ok
  intro H locs la hP hD hS hl
  have hPc := hP.sub (ws' := [(h0, e0)]) [i0] (by
    have h9 : ws[i0]? = some (h0, e0) := by simpa using h1
    simp [h9])
  have hDc := hD.sub (ws' := [(h0, e0)]) [i0] (by simp [va_nd]) h1
  have hFc := va_free (wc := [(h0, e0)]) hD hS hA [i0] h1
  have hcb := va_cnB (R := R) av.length hts hG hw (rm := { frames := fr', cells := mc', slots := ms', locals := lo' }) (mc := mc') (ms := ms') rfl rfl (hN9 _ hq) (hts _ hini) hd ⟨by show fr' + 1 ≤ R.frames; omega, by show 8 + (maxL + 11) + lo' ≤ R.locals; omega⟩
  refine va_callv (va_runIN (As := av) (rest := rest) ⟨hx, hb, hml, hown, hts⟩ (hM H.size) ⟨hcb, hy1, hts _ hins⟩ ⟨Pcn_blind, fun U hU hW => ⟨rfl, by rw [hU], by rw [hU]; exact hPc, va_K.moved hW.alike hK, Nest.warm hW hN9, AOs.moved hW.alike hO, hDc.weaken (fun _ _ _ _ => trivial)⟩⟩ rfl rfl hl.1 hst (lv_room hcat) hdg ⟨by omega, by omega⟩) hS (fun q _ h => hFc q h) hFc (fun u t H1 locs1 ht hvm hw9 hB hz1 hk1 hS1 => ?_)
  obtain ⟨q, hP1, hD1⟩ := hB
  rw [ht] at hP1
  obtain ⟨hP2, hD2⟩ := va_join (wr := wr) (w1 := w1 q) hP hD [i0] isR h1 h2 h3 h4 hk1 hFc hP1 hD1
  exact kk q H1 locs1 la hP2 hD2 hS1 hl
/-- a constructor's call: not private -/
theorem y_iniI (ok : OkC z d A cc nL own Ts fr lo mc ms) {y : MethodName} {bytes : ByteArray} {maxL fr' lo' mc' ms' ix na h0 : Nat} {e0 : va_E} {av : List Value} {w1 : (Nat → Nat) → va_W} {wsC wsC' : List Cond} {wr : va_W} (hM : ∀ sz : Nat, Cn z.2.1 d y wsC fr' lo' mc' ms' h0 e0 sz av w1) (hG : GoodIn Ts wsC) (hlk : Cond.methodLink own ix y ∈ Ts) (hini : Cond.initialized y.cls ∈ Ts) (hins : Cond.instanceMethod y ∈ Ts) (hw : wsC = Cond.code y bytes maxL none :: wsC') (hy1 : y.name = "<init>")
    (hd : y.cls ≠ "java/lang/invoke/MethodHandle" ∧ y.cls ≠ "java/lang/invoke/VarHandle" ∧ (parseMethodDescriptor y.desc).map (fun d => d.parameters.length) = some na) (hna : av.length = na) (hR : fr' + 1 ≤ fr ∧ 8 + (maxL + 11) + lo' ≤ lo ∧ cells + mc' ≤ mc ∧ slots + ms' ≤ ms) (rest : List Value) (hst : st = av.reverse ++ .ref h0 :: rest) (hcat : (rest.map fun v => v.category).sum ≤ 8)
    (i0 : Nat) (isR : List Nat) (h1 : [i0].map (fun i => ws[i]?) = [(h0, e0)].map some) (h2 : isR.map (fun i => ws[i]?) = wr.map some) (h3 : va_nd isR = true) (h4 : ∀ i ∈ isR, i ∉ [i0]) (hdg : decode cc pc = .ok (.invokespecial ix, 3)) (kk : ∀ q : Nat → Nat, Y z d A nL (wr ++ w1 q) ls rest (pc + 3) (cells + mc') (slots + ms')) : Y z d A nL ws ls st pc cells slots := by
  subst hna
  obtain ⟨p, l, e, R, s, m, args, below, meth, c, c0, s0, Q⟩ := z
  obtain ⟨⟨hx, hb, hml, hown, hts⟩, hK, hN9, hO, hfr, hlo, hmc, hms, hA⟩ := ok
  intro H locs la hP hD hS hl
  have hPc := hP.sub (ws' := [(h0, e0)]) [i0] (by
    have h9 : ws[i0]? = some (h0, e0) := by simpa using h1
    simp [h9])
  have hDc := hD.sub (ws' := [(h0, e0)]) [i0] (by simp [va_nd]) h1
  have hFc := va_free (wc := [(h0, e0)]) hD hS hA [i0] h1
  have hcb := cwI (R := R) (own := own) (index := ix) (s := s) (args := args) av.length hts hG hw (rm := { frames := fr', cells := mc', slots := ms', locals := lo' }) (mc := mc') (ms := ms') rfl rfl (hts _ hini) (hts _ hlk) (hts _ hins) hy1 hd ⟨by show fr' + 1 ≤ R.frames; omega, by show 8 + (maxL + 11) + lo' ≤ R.locals; omega⟩
  refine va_callv (va_runI (As := av) (rest := rest) ⟨hx, hb, hml, hown, hts⟩ (hM H.size) hcb ⟨Pcn_blind, fun U hU hW => ⟨rfl, by rw [hU], by rw [hU]; exact hPc, va_K.moved hW.alike hK, Nest.warm hW hN9, AOs.moved hW.alike hO, hDc.weaken (fun _ _ _ _ => trivial)⟩⟩ rfl rfl hl.1 hst (lv_room hcat) hdg ⟨by omega, by omega⟩) hS (fun q _ h => hFc q h) hFc (fun u t H1 locs1 ht hvm hw9 hB hz1 hk1 hS1 => ?_)
  obtain ⟨q, hP1, hD1⟩ := hB
  rw [ht] at hP1
  obtain ⟨hP2, hD2⟩ := va_join (wr := wr) (w1 := w1 q) hP hD [i0] isR h1 h2 h3 h4 hk1 hFc hP1 hD1
  exact kk q H1 locs1 la hP2 hD2 hS1 hl
end YR
