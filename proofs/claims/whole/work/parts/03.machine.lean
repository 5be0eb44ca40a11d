/-! THE MACHINE IN NUMBERED CELLS. A world is a list of cells; a reference is the cell's place in the list (places from zE0 on: cells of the start that nobody writes). Z: from this frame the method ends as the contract says. -/
abbrev zE : Type := (FieldType × vp_A) ⊕ (Nat × List Value)
abbrev zH : Type := List zE
abbrev zL : Type := List (Nat × Value)
/-- launch, classes' numbers, array classes' numbers, the first address, the addresses of the start's cells -/
abbrev zG : Type := Launch × va_G × (FieldType → ClassId) × Nat × (Nat → Nat)
def zE0 : Nat := 1000000
def zkap (g : zG) (ty : FieldType) : ClassId := g.2.2.1 ty
def zbase (g : zG) : Nat := g.2.2.2.1
def za (g : zG) (k : Nat) : Nat := if k < zE0 then g.2.2.2.1 + k else g.2.2.2.2 k
def zv (g : zG) : Value → Value
  | .ref k => .ref (za g k)
  | v => v
theorem zv_int (g : zG) (x : Int32) : zv g (.int x) = .int x := rfl
theorem zv_long (g : zG) (x : Int64) : zv g (.long x) = .long x := rfl
theorem zv_null (g : zG) : zv g .null = .null := rfl
theorem zv_ref (g : zG) (k : Nat) : zv g (.ref k) = .ref (za g k) := rfl
theorem zv_cat (g : zG) (v : Value) : (zv g v).category = v.category := by cases v <;> rfl
def zc (g : zG) : zE → va_E
  | .inl q => .inl (zkap g q.1, q.2)
  | .inr o => .inr (o.1, o.2.map (zv g))
def zw (g : zG) (h : zH) : va_W := h.mapIdx (fun k e => (za g k, zc g e))
theorem zw_get {g : zG} {h : zH} {k : Nat} {e : zE} (hk : h[k]? = some e) : (zw g h)[k]? = some (za g k, zc g e) := by
  simp [zw, List.getElem?_mapIdx, hk]
theorem zw_get' {g : zG} {h : zH} {k : Nat} {q : Nat × va_E} (hk : (zw g h)[k]? = some q) : ∃ e, h[k]? = some e ∧ q = (za g k, zc g e) := by
  simp only [zw, List.getElem?_mapIdx] at hk
  cases hh : h[k]? with
  | none => rw [hh] at hk; cases hk
  | some e => rw [hh] at hk; exact ⟨e, rfl, (Option.some.inj hk).symm⟩
theorem zw_set (g : zG) (h : zH) (k : Nat) (e : zE) : (zw g h).set k (za g k, zc g e) = zw g (h.set k e) := by
  apply List.ext_getElem?
  intro i
  simp only [zw, List.getElem?_mapIdx, List.getElem?_set, List.length_mapIdx]
  by_cases hi : k = i
  · subst hi
    by_cases hl : k < h.length
    · simp [hl]
    · simp [hl]
  · simp [hi]
theorem zw_push (g : zG) (h : zH) (e : zE) : zw g h ++ [(za g h.length, zc g e)] = zw g (h ++ [e]) := by
  simp [zw, List.mapIdx_append]
/-- the free cells: those from the first address on -/
def zA (g : zG) : Nat → Prop := fun q => zbase g ≤ q
theorem za_lt {g : zG} {k : Nat} (h : k < zE0) : za g k = zbase g + k := by simp [za, h, zbase]
theorem zD {g : zG} {h : zH} (hl : h.length ≤ zE0) : va_D (zA g) (zw g h) := by
  have key : ∀ (k : Nat) (q : Nat × va_E), (zw g h)[k]? = some q → q.1 = zbase g + k := by
    intro k q hk
    obtain ⟨e, he, rfl⟩ := zw_get' hk
    have hlt := (List.getElem?_eq_some_iff.mp he).1
    exact za_lt (Nat.lt_of_lt_of_le hlt hl)
  refine ⟨fun i j p q hi hj hpq => ?_, fun k q hk => ?_⟩
  · have h1 := key i p hi
    have h2 := key j q hj
    omega
  · have h1 := key k q hk
    show zbase g ≤ q.1
    omega
/-! what the start holds: String constants, two statics of the JDK -/
def zstrs : List (String × Nat × String × List Int32) := [(RX3, 81, "sun", [115, 117, 110]), (RX3, 90, "yard", [121, 97, 114, 100]), (RX3, 95, "dead", [100, 101, 97, 100]), (RX1, 47, "rank", [114, 97, 110, 107]), (RX1, 53, "waits", [119, 97, 105, 116, 115]), (RX1, 55, "gifts", [103, 105, 102, 116, 115]), (RX1, 57, "kin", [107, 105, 110])]
def zbyt : List (List Int32) := zstrs.map (fun q => q.2.2.2)
def zlen : List Nat := zbyt.map List.length
/-- the places of the start's cells: String i at zE0 + i, its bytes at zE0 + 10 + i, what SIOOBE_FORMATTER holds at zE0 + 20 -/
def zX (g : zG) (s : State) : Prop :=
  va_Z "java/lang/String" "COMPACT_STRINGS" "Z" (.int 1) (zA g) s s.heap ∧
  (va_Z "jdk/internal/util/Preconditions" "SIOOBE_FORMATTER" "Ljava/util/function/BiFunction;" .null (zA g) s s.heap ∨ va_Z "jdk/internal/util/Preconditions" "SIOOBE_FORMATTER" "Ljava/util/function/BiFunction;" (.ref (za g (zE0 + 20))) (zA g) s s.heap) ∧
  vk_S 7 zlen zbyt (fun i => za g (zE0 + i)) (fun i => za g (zE0 + 10 + i)) (zA g) s s.heap ∧
  ∀ (i : Nat) (q : String × Nat × String × List Int32), zstrs[i]? = some q → vk_R q.1 q.2.1 q.2.2.1 (za g (zE0 + i)) s
theorem zX_moved {g : zG} {u U : State} (hW : u.WarmedH U.vm) (hS : va_S (zA g) u.heap U.heap []) (h : zX g u) : zX g U := by
  obtain ⟨h1, h2, h3, h4⟩ := h
  have hq : ∀ a : Nat, a < u.heap.size → ¬ zA g a → U.heap[a]? = u.heap[a]? := hS.2.1
  refine ⟨(va_Z.moved hW.alike h1).kept hq, ?_, (vk_S.moved hW.alike h3).kept hq, fun i q hi => (h4 i q hi).warm hW⟩
  rcases h2 with h2 | h2
  · exact Or.inl ((va_Z.moved hW.alike h2).kept hq)
  · exact Or.inr ((va_Z.moved hW.alike h2).kept hq)
theorem zX_same {g : zG} {u U : State} (hv : u.vm = U.vm) (hh : u.heap = U.heap) (h : zX g u) : zX g U := by
  obtain ⟨h1, h2, h3, h4⟩ := h
  have hal : u.vm.Alike U.vm := by rw [hv]; exact Vm.Alike.refl _
  refine ⟨by rw [← hh]; exact va_Z.moved hal h1, ?_, by rw [← hh]; exact vk_S.moved hal h3, fun i q hi => (h4 i q hi).same hv.symm⟩
  rcases h2 with h2 | h2
  · exact Or.inl (by rw [← hh]; exact va_Z.moved hal h2)
  · exact Or.inr (by rw [← hh]; exact va_Z.moved hal h2)
theorem zNW_moved {u U : State} (hW : u.WarmedH U.vm) {w : Cond} (hw : w ∈ zNW) (h : va_Nw w u) : va_Nw w U := by
  have hn := List.all_eq_true.mp zNW_nest w hw
  cases w with
  | fieldLinkNest a i b n d hh => exact va_Nw.warmF hW h
  | methodLinkNest a i x hh => exact va_Nw.warmM hW h
  | _ => exact absurd hn (by simp [zisNest])
theorem zNW_same {u U : State} (hv : u.vm = U.vm) {w : Cond} (hw : w ∈ zNW) (h : va_Nw w u) : va_Nw w U := by
  have hn := List.all_eq_true.mp zNW_nest w hw
  cases w with
  | fieldLinkNest a i b n d hh => exact va_Nw.same rfl hv h
  | methodLinkNest a i x hh => exact va_Nw.same rfl hv h
  | _ => exact absurd hn (by simp [zisNest])
/-- what is known of the machine's tables, at any state of a run -/
def zK (g : zG) (s : State) : Prop :=
  va_K g.2.1 vwCl [] s ∧ (∀ (ty : FieldType) (cA : ClassId), s.vm.findClass ("[" ++ ty.toString) = some cA → cA = zkap g ty) ∧ (∀ w ∈ zNW, va_Nw w s) ∧ zX g s
/-- the world, on the heap -/
def zO (g : zG) (s : State) (h : zH) (H : Heap) : Prop :=
  va_P g.2.1 vwCl (zw g h) H ∧ H.size = zbase g + h.length ∧ h.length ≤ zE0 ∧ (∀ (k : Nat) (ty : FieldType) (x : vp_A), h[k]? = some (.inl (ty, x)) → ArrOfT s (zkap g ty) ty ∧ va_RA s (zkap g ty) ty)
theorem zK.moved {g : zG} {u U : State} (hW : u.WarmedH U.vm) (hS : va_S (zA g) u.heap U.heap []) (h : zK g u) : zK g U := by
  obtain ⟨h1, h2, h3, h4⟩ := h
  refine ⟨va_K.moved hW.alike h1, fun ty cA q => h2 ty cA (by rw [← hW.alike.findClass]; exact q), fun w hw => zNW_moved hW hw (h3 w hw), zX_moved hW hS h4⟩
theorem zK.same {g : zG} {u U : State} (hv : u.vm = U.vm) (hh : u.heap = U.heap) (h : zK g u) : zK g U := by
  obtain ⟨h1, h2, h3, h4⟩ := h
  refine ⟨va_K.moved (by rw [hv]; exact Vm.Alike.refl _) h1, fun ty cA q => h2 ty cA (by rw [hv]; exact q), fun w hw => zNW_same hv hw (h3 w hw), zX_same hv hh h4⟩
theorem zO.moved {g : zG} {u U : State} {h : zH} {H : Heap} (hvm : u.vm.Alike U.vm) (hO : zO g u h H) : zO g U h H :=
  ⟨hO.1, hO.2.1, hO.2.2.1, fun k ty x hk => ⟨arrOfT_moved hvm (hO.2.2.2 k ty x hk).1, (hO.2.2.2 k ty x hk).2.moved hvm⟩⟩
/-- a method: its name, code, locals, answer's type -/
abbrev zM : Type := MethodName × ByteArray × Nat × Option FieldType
abbrev zy (M : zM) : MethodName := M.1
abbrev zcc (M : zM) : ByteArray := M.2.1
abbrev zmL (M : zM) : Nat := M.2.2.1
abbrev zrt (M : zM) : Option FieldType := M.2.2.2
abbrev zcw (M : zM) : Cond := Cond.code (zy M) (zcc M) (zmL M) (zrt M)
def zws (M : zM) : List Cond := zcw M :: zT
def zPz (g : zG) (av : List Value) (h : zH) : Array Value → State → Prop := fun a U => a = (av.map (zv g)).toArray ∧ zK g U ∧ zO g U h U.heap
def zQz (g : zG) (Q : Option Value → zH → Prop) : Array Value → State → Outcome → State → Prop := fun _ st o t =>
  (∃ (r : Option Value) (h1 : zH), o = .returned (r.map (zv g)) ∧ Q r h1 ∧ zO g t h1 t.heap) ∧ va_F (zA g) st t
def zrm (d mc ms : Nat) : Room := { frames := d, cells := mc, slots := ms, locals := 60 * d }
/-- THE CONTRACT of a method: called with av in the world h, at depth d, it makes at most mc cells of ms slots, and its answer and the world behind it are as Q says -/
def Ev (M : zM) (d mc ms : Nat) (av : List Value) (h : zH) (Q : Option Value → zH → Prop) : Prop :=
  ∀ g : zG, Met g.1 (zy M) (zws M) (zrm d mc ms) (zPz g av h) (zQz g Q) mc ms (zA g)
abbrev zF : Type := Program → Env → Room → State → MethodId → Array Value → List Frame → Method → Code → zG → (State → Prop) → Prop
/-- the frame's fixed things: the end wanted, depth, cells and slots that it may use, the method -/
abbrev zB : Type := zF × Nat × Nat × Nat × zM
abbrev zbM (B : zB) : zM := B.2.2.2.2
abbrev zbc (B : zB) : ByteArray := zcc B.2.2.2.2
abbrev zbD (B : zB) : Nat := B.2.1
def zOk (B : zB) (p : Program) (e : Env) (R : Room) (s : State) (m : MethodId) (args : Array Value) (below : List Frame) (meth : Method) (c : Code) (g : zG) : Prop :=
  p.tables.exec = Jvm.exec ∧ c.code = zbc B ∧ c.maxLocals = zmL (zbM B) ∧ s.vm.findClass (zy (zbM B)).cls = some m.cls ∧ (∀ w ∈ zT, w.before args s = true) ∧ meth.locks = false ∧ meth.sig.returnType = zrt (zbM B) ∧ ((zy (zbM B)).name = "<init>" → meth.name = "<init>") ∧ zbD B ≤ R.frames ∧ 60 * zbD B ≤ R.locals ∧ B.2.2.1 ≤ R.cells ∧ B.2.2.2.1 ≤ R.slots ∧ zK g s ∧ zbase g ≤ s.heap.size
def zloc (g : zG) (lv : zL) : List (Nat × Value) := lv.map (fun q => (q.1, zv g q.2))
/-- from this frame the method ends as wanted -/
def Z (B : zB) (pc : Nat) (lv : zL) (st : List Value) (h : zH) (ce sl : Nat) : Prop :=
  ∀ (p : Program) (e : Env) (R : Room) (s : State) (m : MethodId) (args : Array Value) (below : List Frame) (meth : Method) (c : Code) (g : zG) (Qf : State → Prop),
    B.1 p e R s m args below meth c g Qf → zOk B p e R s m args below meth c g →
    ∀ (H : Heap) (locs : List Loc) (ls : Array Slot), zO g s h H → va_S (zA g) s.heap H locs → lv_has ls (zmL (zbM B)) (zloc g lv) → W p g.1 e R s m args below meth c H locs ce sl Qf (F0 m pc ls (st.map (zv g)))
theorem zloc_at {g : zG} {lv : zL} {k i : Nat} {v : Value} (hk : lv[k]? = some (i, v)) : (zloc g lv)[k]? = some (i, zv g v) := by simp [zloc, hk]
def zst1 (lv : zL) (i : Nat) (v : Value) : zL := (i, v) :: lv.filter (fun q => !(q.1 == i) && !(q.1 + 1 == i && q.2.category == 2))
def zst2 (lv : zL) (i : Nat) (v : Value) : zL := (i, v) :: lv.filter (fun q => !(q.1 == i) && (!(q.1 == i + 1) && !(q.1 + 1 == i && q.2.category == 2)))
theorem zst1_eq {g : zG} {lv lv' : zL} {i : Nat} {v : Value} (h : zst1 lv i v = lv') : (i, zv g v) :: (zloc g lv).filter (fun q => !(q.1 == i) && !(q.1 + 1 == i && q.2.category == 2)) = zloc g lv' := by
  subst h
  simp [zst1, zloc, List.filter_map, Function.comp_def, zv_cat]
theorem zst2_eq {g : zG} {lv lv' : zL} {i : Nat} {v : Value} (h : zst2 lv i v = lv') : (i, zv g v) :: (zloc g lv).filter (fun q => !(q.1 == i) && (!(q.1 == i + 1) && !(q.1 + 1 == i && q.2.category == 2))) = zloc g lv' := by
  subst h
  simp [zst2, zloc, List.filter_map, Function.comp_def, zv_cat]
section ZI
variable {B : zB} {pc : Nat} {lv lv' : zL} {st : List Value} {h : zH} {ce sl : Nat}
/-- fewer locals, in any order, by their places -/
theorem z_sub (ks : List Nat) (hl : lv_pick lv ks = lv') (k : Z B pc lv' st h ce sl) : Z B pc lv st h ce sl := by
  intro p e R s m args below meth c g Qf hF hO H locs ls hH hS hl0
  refine k p e R s m args below meth c g Qf hF hO H locs ls hH hS (lv_sub hl0 ks ?_)
  subst hl
  simp only [lv_pick, zloc, List.map_filterMap, List.getElem?_map]
theorem z_widen {c2 s2 : Nat} (h1 : ce ≤ c2) (h2 : sl ≤ s2) (k : Z B pc lv st h c2 s2) : Z B pc lv st h ce sl := by
  intro p e R s m args below meth c g Qf hF hO H locs ls hH hS hl0
  exact W.widen h1 h2 (k p e R s m args below meth c g Qf hF hO H locs ls hH hS hl0)
theorem z_iconst {n : Int} (v : Int32) (hd : decode (zbc B) pc = .ok (.iconst n, 1)) (hv : Int32.ofInt n = v) (k : Z B (pc + 1) lv (.int v :: st) h ce sl) : Z B pc lv (st) h ce sl := by
  intro p e R s m args below meth c g Qf hF hO H locs ls hH hS hl0
  exact lv_iconst hO.1 hO.2.1 hd hv (k p e R s m args below meth c g Qf hF hO H locs ls hH hS hl0)
theorem z_bipush {n : Int} (v : Int32) (hd : decode (zbc B) pc = .ok (.bipush n, 2)) (hv : (Int8.ofInt n).toInt32 = v) (k : Z B (pc + 2) lv (.int v :: st) h ce sl) : Z B pc lv (st) h ce sl := by
  intro p e R s m args below meth c g Qf hF hO H locs ls hH hS hl0
  exact lv_bipush hO.1 hO.2.1 hd hv (k p e R s m args below meth c g Qf hF hO H locs ls hH hS hl0)
theorem z_sipush {n : Int} (v : Int32) (hd : decode (zbc B) pc = .ok (.sipush n, 3)) (hv : (Int16.ofInt n).toInt32 = v) (k : Z B (pc + 3) lv (.int v :: st) h ce sl) : Z B pc lv (st) h ce sl := by
  intro p e R s m args below meth c g Qf hF hO H locs ls hH hS hl0
  exact lv_sipush hO.1 hO.2.1 hd hv (k p e R s m args below meth c g Qf hF hO H locs ls hH hS hl0)
theorem z_lconst {n : Fin 2} (v : Int64) (hd : decode (zbc B) pc = .ok (.lconst n, 1)) (hv : Int64.ofNat (n : Nat) = v) (k : Z B (pc + 1) lv (.long v :: st) h ce sl) : Z B pc lv (st) h ce sl := by
  intro p e R s m args below meth c g Qf hF hO H locs ls hH hS hl0
  exact lv_lconst hO.1 hO.2.1 hd hv (k p e R s m args below meth c g Qf hF hO H locs ls hH hS hl0)
theorem z_null  (hd : decode (zbc B) pc = .ok (.aconst_null, 1)) (k : Z B (pc + 1) lv (.null :: st) h ce sl) : Z B pc lv (st) h ce sl := by
  intro p e R s m args below meth c g Qf hF hO H locs ls hH hS hl0
  exact lv_null hO.1 hO.2.1 hd (k p e R s m args below meth c g Qf hF hO H locs ls hH hS hl0)
theorem z_ldc {idx : Nat} (v : Int32) (hd : decode (zbc B) pc = .ok (.ldc idx, 2)) (hw : Jvm.Cond.constant (zy (zbM B)).cls idx v ∈ zT) (k : Z B (pc + 2) lv (.int v :: st) h ce sl) : Z B pc lv (st) h ce sl := by
  intro p e R s m args below meth c g Qf hF hO H locs ls hH hS hl0
  exact lv_ldc hO.1 hO.2.1 hO.2.2.2.1 (hO.2.2.2.2.1 _ hw) hd (k p e R s m args below meth c g Qf hF hO H locs ls hH hS hl0)
theorem z_ldcw {idx : Nat} (v : Int32) (hd : decode (zbc B) pc = .ok (.ldc_w idx, 3)) (hw : Jvm.Cond.constant (zy (zbM B)).cls idx v ∈ zT) (k : Z B (pc + 3) lv (.int v :: st) h ce sl) : Z B pc lv (st) h ce sl := by
  intro p e R s m args below meth c g Qf hF hO H locs ls hH hS hl0
  exact lv_ldcw hO.1 hO.2.1 hO.2.2.2.1 (hO.2.2.2.2.1 _ hw) hd (k p e R s m args below meth c g Qf hF hO H locs ls hH hS hl0)
theorem z_ldc2 {idx : Nat} (v : Int64) (hd : decode (zbc B) pc = .ok (.ldc2_w idx, 3)) (hw : Jvm.Cond.constantLong (zy (zbM B)).cls idx v ∈ zT) (k : Z B (pc + 3) lv (.long v :: st) h ce sl) : Z B pc lv (st) h ce sl := by
  intro p e R s m args below meth c g Qf hF hO H locs ls hH hS hl0
  exact lv_ldc2 hO.1 hO.2.1 hO.2.2.2.1 (hO.2.2.2.2.1 _ hw) hd (k p e R s m args below meth c g Qf hF hO H locs ls hH hS hl0)
theorem z_iload_n {n : Fin 4} {i : Nat} {x : Int32} (j : Nat) (hd : decode (zbc B) pc = .ok (.iload_n n, 1)) (hi : (n : Nat) = i) (hj : lv[j]? = some (i, .int x)) (k : Z B (pc + 1) lv (.int x :: st) h ce sl) : Z B pc lv (st) h ce sl := by
  intro p e R s m args below meth c g Qf hF hO H locs ls hH hS hl0
  exact lv_iload_n hO.1 hO.2.1 hd hi (lv_at hl0 j (zloc_at hj)) (k p e R s m args below meth c g Qf hF hO H locs ls hH hS hl0)
theorem z_iload {i : Nat} {x : Int32} (j : Nat) (hd : decode (zbc B) pc = .ok (.iload i, 2)) (hj : lv[j]? = some (i, .int x)) (k : Z B (pc + 2) lv (.int x :: st) h ce sl) : Z B pc lv (st) h ce sl := by
  intro p e R s m args below meth c g Qf hF hO H locs ls hH hS hl0
  exact lv_iload hO.1 hO.2.1 hd (lv_at hl0 j (zloc_at hj)) (k p e R s m args below meth c g Qf hF hO H locs ls hH hS hl0)
theorem z_lload_n {n : Fin 4} {i : Nat} {x : Int64} (j : Nat) (hd : decode (zbc B) pc = .ok (.lload_n n, 1)) (hi : (n : Nat) = i) (hj : lv[j]? = some (i, .long x)) (k : Z B (pc + 1) lv (.long x :: st) h ce sl) : Z B pc lv (st) h ce sl := by
  intro p e R s m args below meth c g Qf hF hO H locs ls hH hS hl0
  exact lv_lload_n hO.1 hO.2.1 hd hi (lv_at hl0 j (zloc_at hj)) (k p e R s m args below meth c g Qf hF hO H locs ls hH hS hl0)
theorem z_lload {i : Nat} {x : Int64} (j : Nat) (hd : decode (zbc B) pc = .ok (.lload i, 2)) (hj : lv[j]? = some (i, .long x)) (k : Z B (pc + 2) lv (.long x :: st) h ce sl) : Z B pc lv (st) h ce sl := by
  intro p e R s m args below meth c g Qf hF hO H locs ls hH hS hl0
  exact lv_lload hO.1 hO.2.1 hd (lv_at hl0 j (zloc_at hj)) (k p e R s m args below meth c g Qf hF hO H locs ls hH hS hl0)
theorem z_aload_n {n : Fin 4} {i : Nat} {x : Nat} (j : Nat) (hd : decode (zbc B) pc = .ok (.aload_n n, 1)) (hi : (n : Nat) = i) (hj : lv[j]? = some (i, .ref x)) (k : Z B (pc + 1) lv (.ref x :: st) h ce sl) : Z B pc lv (st) h ce sl := by
  intro p e R s m args below meth c g Qf hF hO H locs ls hH hS hl0
  exact lv_aload_n hO.1 hO.2.1 hd hi (lv_at hl0 j (zloc_at hj)) (k p e R s m args below meth c g Qf hF hO H locs ls hH hS hl0)
theorem z_aload {i : Nat} {x : Nat} (j : Nat) (hd : decode (zbc B) pc = .ok (.aload i, 2)) (hj : lv[j]? = some (i, .ref x)) (k : Z B (pc + 2) lv (.ref x :: st) h ce sl) : Z B pc lv (st) h ce sl := by
  intro p e R s m args below meth c g Qf hF hO H locs ls hH hS hl0
  exact lv_aload hO.1 hO.2.1 hd (lv_at hl0 j (zloc_at hj)) (k p e R s m args below meth c g Qf hF hO H locs ls hH hS hl0)
theorem z_aload_nN {n : Fin 4} {i : Nat} (j : Nat) (hd : decode (zbc B) pc = .ok (.aload_n n, 1)) (hi : (n : Nat) = i) (hj : lv[j]? = some (i, .null)) (k : Z B (pc + 1) lv (.null :: st) h ce sl) : Z B pc lv (st) h ce sl := by
  intro p e R s m args below meth c g Qf hF hO H locs ls hH hS hl0
  exact lv_aload_nN hO.1 hO.2.1 hd hi (lv_at hl0 j (zloc_at hj)) (k p e R s m args below meth c g Qf hF hO H locs ls hH hS hl0)
theorem z_aloadN {i : Nat} (j : Nat) (hd : decode (zbc B) pc = .ok (.aload i, 2)) (hj : lv[j]? = some (i, .null)) (k : Z B (pc + 2) lv (.null :: st) h ce sl) : Z B pc lv (st) h ce sl := by
  intro p e R s m args below meth c g Qf hF hO H locs ls hH hS hl0
  exact lv_aloadN hO.1 hO.2.1 hd (lv_at hl0 j (zloc_at hj)) (k p e R s m args below meth c g Qf hF hO H locs ls hH hS hl0)
theorem z_istore_n {n : Fin 4} {i : Nat} {x : Int32} (hd : decode (zbc B) pc = .ok (.istore_n n, 1)) (hi : (n : Nat) = i) (hn : i < zmL (zbM B)) (hl : zst1 lv i (.int x) = lv') (k : Z B (pc + 1) lv' st h ce sl) : Z B pc lv (.int x :: st) h ce sl := by
  intro p e R s m args below meth c g Qf hF hO H locs ls hH hS hl0
  exact lv_istore_n hO.1 hO.2.1 hd hi hl0 hn (zst1_eq hl) (fun ls' hl' => k p e R s m args below meth c g Qf hF hO H locs ls' hH hS hl')
theorem z_istore {i : Nat} {x : Int32} (hd : decode (zbc B) pc = .ok (.istore i, 2)) (hn : i < zmL (zbM B)) (hl : zst1 lv i (.int x) = lv') (k : Z B (pc + 2) lv' st h ce sl) : Z B pc lv (.int x :: st) h ce sl := by
  intro p e R s m args below meth c g Qf hF hO H locs ls hH hS hl0
  exact lv_istore hO.1 hO.2.1 hd hl0 hn (zst1_eq hl) (fun ls' hl' => k p e R s m args below meth c g Qf hF hO H locs ls' hH hS hl')
theorem z_lstore_n {n : Fin 4} {i : Nat} {x : Int64} (hd : decode (zbc B) pc = .ok (.lstore_n n, 1)) (hi : (n : Nat) = i) (hn : i + 1 < zmL (zbM B)) (hl : zst2 lv i (.long x) = lv') (k : Z B (pc + 1) lv' st h ce sl) : Z B pc lv (.long x :: st) h ce sl := by
  intro p e R s m args below meth c g Qf hF hO H locs ls hH hS hl0
  exact lv_lstore_n hO.1 hO.2.1 hd hi hl0 hn (zst2_eq hl) (fun ls' hl' => k p e R s m args below meth c g Qf hF hO H locs ls' hH hS hl')
theorem z_lstore {i : Nat} {x : Int64} (hd : decode (zbc B) pc = .ok (.lstore i, 2)) (hn : i + 1 < zmL (zbM B)) (hl : zst2 lv i (.long x) = lv') (k : Z B (pc + 2) lv' st h ce sl) : Z B pc lv (.long x :: st) h ce sl := by
  intro p e R s m args below meth c g Qf hF hO H locs ls hH hS hl0
  exact lv_lstore hO.1 hO.2.1 hd hl0 hn (zst2_eq hl) (fun ls' hl' => k p e R s m args below meth c g Qf hF hO H locs ls' hH hS hl')
theorem z_astore_n {n : Fin 4} {i : Nat} {x : Nat} (hd : decode (zbc B) pc = .ok (.astore_n n, 1)) (hi : (n : Nat) = i) (hn : i < zmL (zbM B)) (hl : zst1 lv i (.ref x) = lv') (k : Z B (pc + 1) lv' st h ce sl) : Z B pc lv (.ref x :: st) h ce sl := by
  intro p e R s m args below meth c g Qf hF hO H locs ls hH hS hl0
  exact lv_astore_n hO.1 hO.2.1 hd hi hl0 hn (zst1_eq hl) (fun ls' hl' => k p e R s m args below meth c g Qf hF hO H locs ls' hH hS hl')
theorem z_astore {i : Nat} {x : Nat} (hd : decode (zbc B) pc = .ok (.astore i, 2)) (hn : i < zmL (zbM B)) (hl : zst1 lv i (.ref x) = lv') (k : Z B (pc + 2) lv' st h ce sl) : Z B pc lv (.ref x :: st) h ce sl := by
  intro p e R s m args below meth c g Qf hF hO H locs ls hH hS hl0
  exact lv_astore hO.1 hO.2.1 hd hl0 hn (zst1_eq hl) (fun ls' hl' => k p e R s m args below meth c g Qf hF hO H locs ls' hH hS hl')
theorem z_iinc {i : Nat} {n : Int} {x : Int32} (j : Nat) (v : Int32) (hd : decode (zbc B) pc = .ok (.iinc i n, 3)) (hj : lv[j]? = some (i, .int x)) (hv : x + Int32.ofInt n = v) (hn : i < zmL (zbM B)) (hl : zst1 lv i (.int v) = lv') (k : Z B (pc + 3) lv' st h ce sl) : Z B pc lv st h ce sl := by
  intro p e R s m args below meth c g Qf hF hO H locs ls hH hS hl0
  exact lv_iinc hO.1 hO.2.1 hd hl0 (zloc_at (g := g) hj) hv hn (zst1_eq hl) (fun ls' hl' => k p e R s m args below meth c g Qf hF hO H locs ls' hH hS hl')
theorem z_iadd {x y : Int32} (hd : decode (zbc B) pc = .ok (.iadd, 1)) (k : Z B (pc + 1) lv (.int (x + y) :: st) h ce sl) : Z B pc lv (.int y :: .int x :: st) h ce sl := by
  intro p e R s m args below meth c g Qf hF hO H locs ls hH hS hl0
  exact lv_iadd hO.1 hO.2.1 hd (k p e R s m args below meth c g Qf hF hO H locs ls hH hS hl0)
theorem z_isub {x y : Int32} (hd : decode (zbc B) pc = .ok (.isub, 1)) (k : Z B (pc + 1) lv (.int (x - y) :: st) h ce sl) : Z B pc lv (.int y :: .int x :: st) h ce sl := by
  intro p e R s m args below meth c g Qf hF hO H locs ls hH hS hl0
  exact lv_isub hO.1 hO.2.1 hd (k p e R s m args below meth c g Qf hF hO H locs ls hH hS hl0)
theorem z_imul {x y : Int32} (hd : decode (zbc B) pc = .ok (.imul, 1)) (k : Z B (pc + 1) lv (.int (x * y) :: st) h ce sl) : Z B pc lv (.int y :: .int x :: st) h ce sl := by
  intro p e R s m args below meth c g Qf hF hO H locs ls hH hS hl0
  exact lv_imul hO.1 hO.2.1 hd (k p e R s m args below meth c g Qf hF hO H locs ls hH hS hl0)
theorem z_iand {x y : Int32} (hd : decode (zbc B) pc = .ok (.iand, 1)) (k : Z B (pc + 1) lv (.int (x &&& y) :: st) h ce sl) : Z B pc lv (.int y :: .int x :: st) h ce sl := by
  intro p e R s m args below meth c g Qf hF hO H locs ls hH hS hl0
  exact lv_iand hO.1 hO.2.1 hd (k p e R s m args below meth c g Qf hF hO H locs ls hH hS hl0)
theorem z_ior {x y : Int32} (hd : decode (zbc B) pc = .ok (.ior, 1)) (k : Z B (pc + 1) lv (.int (x ||| y) :: st) h ce sl) : Z B pc lv (.int y :: .int x :: st) h ce sl := by
  intro p e R s m args below meth c g Qf hF hO H locs ls hH hS hl0
  exact lv_ior hO.1 hO.2.1 hd (k p e R s m args below meth c g Qf hF hO H locs ls hH hS hl0)
theorem z_ixor {x y : Int32} (hd : decode (zbc B) pc = .ok (.ixor, 1)) (k : Z B (pc + 1) lv (.int (x ^^^ y) :: st) h ce sl) : Z B pc lv (.int y :: .int x :: st) h ce sl := by
  intro p e R s m args below meth c g Qf hF hO H locs ls hH hS hl0
  exact lv_ixor hO.1 hO.2.1 hd (k p e R s m args below meth c g Qf hF hO H locs ls hH hS hl0)
theorem z_ladd {x y : Int64} (hd : decode (zbc B) pc = .ok (.ladd, 1)) (k : Z B (pc + 1) lv (.long (x + y) :: st) h ce sl) : Z B pc lv (.long y :: .long x :: st) h ce sl := by
  intro p e R s m args below meth c g Qf hF hO H locs ls hH hS hl0
  exact lv_ladd hO.1 hO.2.1 hd (k p e R s m args below meth c g Qf hF hO H locs ls hH hS hl0)
theorem z_lsub {x y : Int64} (hd : decode (zbc B) pc = .ok (.lsub, 1)) (k : Z B (pc + 1) lv (.long (x - y) :: st) h ce sl) : Z B pc lv (.long y :: .long x :: st) h ce sl := by
  intro p e R s m args below meth c g Qf hF hO H locs ls hH hS hl0
  exact lv_lsub hO.1 hO.2.1 hd (k p e R s m args below meth c g Qf hF hO H locs ls hH hS hl0)
theorem z_lmul {x y : Int64} (hd : decode (zbc B) pc = .ok (.lmul, 1)) (k : Z B (pc + 1) lv (.long (x * y) :: st) h ce sl) : Z B pc lv (.long y :: .long x :: st) h ce sl := by
  intro p e R s m args below meth c g Qf hF hO H locs ls hH hS hl0
  exact lv_lmul hO.1 hO.2.1 hd (k p e R s m args below meth c g Qf hF hO H locs ls hH hS hl0)
theorem z_land {x y : Int64} (hd : decode (zbc B) pc = .ok (.land, 1)) (k : Z B (pc + 1) lv (.long (x &&& y) :: st) h ce sl) : Z B pc lv (.long y :: .long x :: st) h ce sl := by
  intro p e R s m args below meth c g Qf hF hO H locs ls hH hS hl0
  exact lv_land hO.1 hO.2.1 hd (k p e R s m args below meth c g Qf hF hO H locs ls hH hS hl0)
theorem z_lor {x y : Int64} (hd : decode (zbc B) pc = .ok (.lor, 1)) (k : Z B (pc + 1) lv (.long (x ||| y) :: st) h ce sl) : Z B pc lv (.long y :: .long x :: st) h ce sl := by
  intro p e R s m args below meth c g Qf hF hO H locs ls hH hS hl0
  exact lv_lor hO.1 hO.2.1 hd (k p e R s m args below meth c g Qf hF hO H locs ls hH hS hl0)
theorem z_lxor {x y : Int64} (hd : decode (zbc B) pc = .ok (.lxor, 1)) (k : Z B (pc + 1) lv (.long (x ^^^ y) :: st) h ce sl) : Z B pc lv (.long y :: .long x :: st) h ce sl := by
  intro p e R s m args below meth c g Qf hF hO H locs ls hH hS hl0
  exact lv_lxor hO.1 hO.2.1 hd (k p e R s m args below meth c g Qf hF hO H locs ls hH hS hl0)
theorem z_idiv {x y : Int32} (hd : decode (zbc B) pc = .ok (.idiv, 1)) (hne : ¬ y = 0) (k : Z B (pc + 1) lv (.int (x / y) :: st) h ce sl) : Z B pc lv (.int y :: .int x :: st) h ce sl := by
  intro p e R s m args below meth c g Qf hF hO H locs ls hH hS hl0
  exact lv_idiv hO.1 hO.2.1 hd hne (k p e R s m args below meth c g Qf hF hO H locs ls hH hS hl0)
theorem z_irem {x y : Int32} (hd : decode (zbc B) pc = .ok (.irem, 1)) (hne : ¬ y = 0) (k : Z B (pc + 1) lv (.int (x - x / y * y) :: st) h ce sl) : Z B pc lv (.int y :: .int x :: st) h ce sl := by
  intro p e R s m args below meth c g Qf hF hO H locs ls hH hS hl0
  exact lv_irem hO.1 hO.2.1 hd hne (k p e R s m args below meth c g Qf hF hO H locs ls hH hS hl0)
theorem z_ldiv {x y : Int64} (hd : decode (zbc B) pc = .ok (.ldiv, 1)) (hne : ¬ y = 0) (k : Z B (pc + 1) lv (.long (x / y) :: st) h ce sl) : Z B pc lv (.long y :: .long x :: st) h ce sl := by
  intro p e R s m args below meth c g Qf hF hO H locs ls hH hS hl0
  exact lv_ldiv hO.1 hO.2.1 hd hne (k p e R s m args below meth c g Qf hF hO H locs ls hH hS hl0)
theorem z_lrem {x y : Int64} (hd : decode (zbc B) pc = .ok (.lrem, 1)) (hne : ¬ y = 0) (k : Z B (pc + 1) lv (.long (x - x / y * y) :: st) h ce sl) : Z B pc lv (.long y :: .long x :: st) h ce sl := by
  intro p e R s m args below meth c g Qf hF hO H locs ls hH hS hl0
  exact lv_lrem hO.1 hO.2.1 hd hne (k p e R s m args below meth c g Qf hF hO H locs ls hH hS hl0)
theorem z_ineg {x : Int32} (hd : decode (zbc B) pc = .ok (.ineg, 1)) (k : Z B (pc + 1) lv (.int (0 - x) :: st) h ce sl) : Z B pc lv (.int x :: st) h ce sl := by
  intro p e R s m args below meth c g Qf hF hO H locs ls hH hS hl0
  exact lv_ineg hO.1 hO.2.1 hd (k p e R s m args below meth c g Qf hF hO H locs ls hH hS hl0)
theorem z_ishl {x y : Int32} (hd : decode (zbc B) pc = .ok (.ishl, 1)) (k : Z B (pc + 1) lv (.int (x <<< (y &&& 31)) :: st) h ce sl) : Z B pc lv (.int y :: .int x :: st) h ce sl := by
  intro p e R s m args below meth c g Qf hF hO H locs ls hH hS hl0
  exact lv_ishl hO.1 hO.2.1 hd (k p e R s m args below meth c g Qf hF hO H locs ls hH hS hl0)
theorem z_ishr {x y : Int32} (hd : decode (zbc B) pc = .ok (.ishr, 1)) (k : Z B (pc + 1) lv (.int (x >>> (y &&& 31)) :: st) h ce sl) : Z B pc lv (.int y :: .int x :: st) h ce sl := by
  intro p e R s m args below meth c g Qf hF hO H locs ls hH hS hl0
  exact lv_ishr hO.1 hO.2.1 hd (k p e R s m args below meth c g Qf hF hO H locs ls hH hS hl0)
theorem z_i2l {x : Int32} (hd : decode (zbc B) pc = .ok (.i2l, 1)) (k : Z B (pc + 1) lv (.long x.toInt64 :: st) h ce sl) : Z B pc lv (.int x :: st) h ce sl := by
  intro p e R s m args below meth c g Qf hF hO H locs ls hH hS hl0
  exact lv_i2l hO.1 hO.2.1 hd rfl (k p e R s m args below meth c g Qf hF hO H locs ls hH hS hl0)
theorem z_l2i {x : Int64} (hd : decode (zbc B) pc = .ok (.l2i, 1)) (k : Z B (pc + 1) lv (.int x.toInt32 :: st) h ce sl) : Z B pc lv (.long x :: st) h ce sl := by
  intro p e R s m args below meth c g Qf hF hO H locs ls hH hS hl0
  exact lv_l2i hO.1 hO.2.1 hd rfl (k p e R s m args below meth c g Qf hF hO H locs ls hH hS hl0)
theorem z_i2b {x : Int32} (hd : decode (zbc B) pc = .ok (.i2b, 1)) (k : Z B (pc + 1) lv (.int x.toInt8.toInt32 :: st) h ce sl) : Z B pc lv (.int x :: st) h ce sl := by
  intro p e R s m args below meth c g Qf hF hO H locs ls hH hS hl0
  exact lv_i2b hO.1 hO.2.1 hd rfl (k p e R s m args below meth c g Qf hF hO H locs ls hH hS hl0)
theorem z_iushr {x y : Int32} (hd : decode (zbc B) pc = .ok (.iushr, 1)) (k : Z B (pc + 1) lv (.int (x.toUInt32 >>> (y.toUInt32 &&& Int32.toUInt32 31)).toInt32 :: st) h ce sl) : Z B pc lv (.int y :: .int x :: st) h ce sl := by
  intro p e R s m args below meth c g Qf hF hO H locs ls hH hS hl0
  exact lv_iushr hO.1 hO.2.1 hd rfl (k p e R s m args below meth c g Qf hF hO H locs ls hH hS hl0)
theorem z_lushr {x : Int64} {y : Int32} (hd : decode (zbc B) pc = .ok (.lushr, 1)) (k : Z B (pc + 1) lv (.long (x.toUInt64 >>> (y.toInt64.toUInt64 &&& Int64.toUInt64 63)).toInt64 :: st) h ce sl) : Z B pc lv (.int y :: .long x :: st) h ce sl := by
  intro p e R s m args below meth c g Qf hF hO H locs ls hH hS hl0
  exact lv_lushr hO.1 hO.2.1 hd rfl (k p e R s m args below meth c g Qf hF hO H locs ls hH hS hl0)
theorem z_lshl {x : Int64} {y : Int32} (hd : decode (zbc B) pc = .ok (.lshl, 1)) (k : Z B (pc + 1) lv (.long (x <<< (y.toInt64 &&& 63)) :: st) h ce sl) : Z B pc lv (.int y :: .long x :: st) h ce sl := by
  intro p e R s m args below meth c g Qf hF hO H locs ls hH hS hl0
  exact lv_lshl hO.1 hO.2.1 hd rfl (k p e R s m args below meth c g Qf hF hO H locs ls hH hS hl0)
theorem z_lshr {x : Int64} {y : Int32} (hd : decode (zbc B) pc = .ok (.lshr, 1)) (k : Z B (pc + 1) lv (.long (x >>> (y.toInt64 &&& 63)) :: st) h ce sl) : Z B pc lv (.int y :: .long x :: st) h ce sl := by
  intro p e R s m args below meth c g Qf hF hO H locs ls hH hS hl0
  exact lv_lshr hO.1 hO.2.1 hd rfl (k p e R s m args below meth c g Qf hF hO H locs ls hH hS hl0)
theorem z_lcmp {x y : Int64} (hd : decode (zbc B) pc = .ok (.lcmp, 1)) (k : Z B (pc + 1) lv (.int (lg_cmp x y) :: st) h ce sl) : Z B pc lv (.long y :: .long x :: st) h ce sl := by
  intro p e R s m args below meth c g Qf hF hO H locs ls hH hS hl0
  exact W.lcmp hO.1 hO.2.1 hd (k p e R s m args below meth c g Qf hF hO H locs ls hH hS hl0)
theorem z_dup {v : Value} (hd : decode (zbc B) pc = .ok (.dup, 1)) (hv : v.category = 1) (k : Z B (pc + 1) lv (v :: v :: st) h ce sl) : Z B pc lv (v :: st) h ce sl := by
  intro p e R s m args below meth c g Qf hF hO H locs ls hH hS hl0
  exact lv_dup hO.1 hO.2.1 hd (by rw [zv_cat]; exact hv) (k p e R s m args below meth c g Qf hF hO H locs ls hH hS hl0)
theorem z_pop {v : Value} (hd : decode (zbc B) pc = .ok (.pop, 1)) (hv : v.category = 1) (k : Z B (pc + 1) lv (st) h ce sl) : Z B pc lv (v :: st) h ce sl := by
  intro p e R s m args below meth c g Qf hF hO H locs ls hH hS hl0
  exact lv_pop hO.1 hO.2.1 hd (by rw [zv_cat]; exact hv) (k p e R s m args below meth c g Qf hF hO H locs ls hH hS hl0)
theorem z_dup_x1 {v w : Value} (hd : decode (zbc B) pc = .ok (.dup_x1, 1)) (hv : v.category = 1) (hw : w.category = 1) (k : Z B (pc + 1) lv (v :: w :: v :: st) h ce sl) : Z B pc lv (v :: w :: st) h ce sl := by
  intro p e R s m args below meth c g Qf hF hO H locs ls hH hS hl0
  exact lv_dup_x1 hO.1 hO.2.1 hd (by rw [zv_cat]; exact hv) (by rw [zv_cat]; exact hw) (k p e R s m args below meth c g Qf hF hO H locs ls hH hS hl0)
theorem z_dup_x2 {v w u : Value} (hd : decode (zbc B) pc = .ok (.dup_x2, 1)) (hv : v.category = 1) (hw : w.category = 1) (hu : u.category = 1) (k : Z B (pc + 1) lv (v :: w :: u :: v :: st) h ce sl) : Z B pc lv (v :: w :: u :: st) h ce sl := by
  intro p e R s m args below meth c g Qf hF hO H locs ls hH hS hl0
  exact lv_dup_x2 hO.1 hO.2.1 hd (by rw [zv_cat]; exact hv) (by rw [zv_cat]; exact hw) (by rw [zv_cat]; exact hu) (k p e R s m args below meth c g Qf hF hO H locs ls hH hS hl0)
theorem z_dup2 {v w : Value} (hd : decode (zbc B) pc = .ok (.dup2, 1)) (hv : v.category = 1) (hw : w.category = 1) (k : Z B (pc + 1) lv (v :: w :: v :: w :: st) h ce sl) : Z B pc lv (v :: w :: st) h ce sl := by
  intro p e R s m args below meth c g Qf hF hO H locs ls hH hS hl0
  exact lv_dup2_11 hO.1 hO.2.1 hd (by rw [zv_cat]; exact hv) (by rw [zv_cat]; exact hw) (k p e R s m args below meth c g Qf hF hO H locs ls hH hS hl0)
theorem z_if_eq {x : Int32} {off : Int} (tgt : Nat) (hd : decode (zbc B) pc = .ok (.ifCond .eq off, 3)) (ht : (pc : Int) + off = (tgt : Int)) (kt : x = 0 → Z B tgt lv st h ce sl) (kf : ¬ x = 0 → Z B (pc + 3) lv st h ce sl) : Z B pc lv (.int x :: st) h ce sl := by
  intro p e R s m args below meth c g Qf hF hO H locs ls hH hS hl0
  exact lv_if_eq hO.1 hO.2.1 hd ht (fun q => kt q p e R s m args below meth c g Qf hF hO H locs ls hH hS hl0) (fun q => kf q p e R s m args below meth c g Qf hF hO H locs ls hH hS hl0)
theorem z_icmp_eq {x y : Int32} {off : Int} (tgt : Nat) (hd : decode (zbc B) pc = .ok (.if_icmp .eq off, 3)) (ht : (pc : Int) + off = (tgt : Int)) (kt : x = y → Z B tgt lv st h ce sl) (kf : ¬ x = y → Z B (pc + 3) lv st h ce sl) : Z B pc lv (.int y :: .int x :: st) h ce sl := by
  intro p e R s m args below meth c g Qf hF hO H locs ls hH hS hl0
  exact lv_icmp_eq hO.1 hO.2.1 hd ht (fun q => kt q p e R s m args below meth c g Qf hF hO H locs ls hH hS hl0) (fun q => kf q p e R s m args below meth c g Qf hF hO H locs ls hH hS hl0)
theorem z_if_ne {x : Int32} {off : Int} (tgt : Nat) (hd : decode (zbc B) pc = .ok (.ifCond .ne off, 3)) (ht : (pc : Int) + off = (tgt : Int)) (kt : ¬ x = 0 → Z B tgt lv st h ce sl) (kf : x = 0 → Z B (pc + 3) lv st h ce sl) : Z B pc lv (.int x :: st) h ce sl := by
  intro p e R s m args below meth c g Qf hF hO H locs ls hH hS hl0
  exact lv_if_ne hO.1 hO.2.1 hd ht (fun q => kt q p e R s m args below meth c g Qf hF hO H locs ls hH hS hl0) (fun q => kf q p e R s m args below meth c g Qf hF hO H locs ls hH hS hl0)
theorem z_icmp_ne {x y : Int32} {off : Int} (tgt : Nat) (hd : decode (zbc B) pc = .ok (.if_icmp .ne off, 3)) (ht : (pc : Int) + off = (tgt : Int)) (kt : ¬ x = y → Z B tgt lv st h ce sl) (kf : x = y → Z B (pc + 3) lv st h ce sl) : Z B pc lv (.int y :: .int x :: st) h ce sl := by
  intro p e R s m args below meth c g Qf hF hO H locs ls hH hS hl0
  exact lv_icmp_ne hO.1 hO.2.1 hd ht (fun q => kt q p e R s m args below meth c g Qf hF hO H locs ls hH hS hl0) (fun q => kf q p e R s m args below meth c g Qf hF hO H locs ls hH hS hl0)
theorem z_if_lt {x : Int32} {off : Int} (tgt : Nat) (hd : decode (zbc B) pc = .ok (.ifCond .lt off, 3)) (ht : (pc : Int) + off = (tgt : Int)) (kt : x < 0 → Z B tgt lv st h ce sl) (kf : ¬ x < 0 → Z B (pc + 3) lv st h ce sl) : Z B pc lv (.int x :: st) h ce sl := by
  intro p e R s m args below meth c g Qf hF hO H locs ls hH hS hl0
  exact lv_if_lt hO.1 hO.2.1 hd ht (fun q => kt q p e R s m args below meth c g Qf hF hO H locs ls hH hS hl0) (fun q => kf q p e R s m args below meth c g Qf hF hO H locs ls hH hS hl0)
theorem z_icmp_lt {x y : Int32} {off : Int} (tgt : Nat) (hd : decode (zbc B) pc = .ok (.if_icmp .lt off, 3)) (ht : (pc : Int) + off = (tgt : Int)) (kt : x < y → Z B tgt lv st h ce sl) (kf : ¬ x < y → Z B (pc + 3) lv st h ce sl) : Z B pc lv (.int y :: .int x :: st) h ce sl := by
  intro p e R s m args below meth c g Qf hF hO H locs ls hH hS hl0
  exact lv_icmp_lt hO.1 hO.2.1 hd ht (fun q => kt q p e R s m args below meth c g Qf hF hO H locs ls hH hS hl0) (fun q => kf q p e R s m args below meth c g Qf hF hO H locs ls hH hS hl0)
theorem z_if_ge {x : Int32} {off : Int} (tgt : Nat) (hd : decode (zbc B) pc = .ok (.ifCond .ge off, 3)) (ht : (pc : Int) + off = (tgt : Int)) (kt : 0 ≤ x → Z B tgt lv st h ce sl) (kf : ¬ 0 ≤ x → Z B (pc + 3) lv st h ce sl) : Z B pc lv (.int x :: st) h ce sl := by
  intro p e R s m args below meth c g Qf hF hO H locs ls hH hS hl0
  exact lv_if_ge hO.1 hO.2.1 hd ht (fun q => kt q p e R s m args below meth c g Qf hF hO H locs ls hH hS hl0) (fun q => kf q p e R s m args below meth c g Qf hF hO H locs ls hH hS hl0)
theorem z_icmp_ge {x y : Int32} {off : Int} (tgt : Nat) (hd : decode (zbc B) pc = .ok (.if_icmp .ge off, 3)) (ht : (pc : Int) + off = (tgt : Int)) (kt : y ≤ x → Z B tgt lv st h ce sl) (kf : ¬ y ≤ x → Z B (pc + 3) lv st h ce sl) : Z B pc lv (.int y :: .int x :: st) h ce sl := by
  intro p e R s m args below meth c g Qf hF hO H locs ls hH hS hl0
  exact lv_icmp_ge hO.1 hO.2.1 hd ht (fun q => kt q p e R s m args below meth c g Qf hF hO H locs ls hH hS hl0) (fun q => kf q p e R s m args below meth c g Qf hF hO H locs ls hH hS hl0)
theorem z_if_gt {x : Int32} {off : Int} (tgt : Nat) (hd : decode (zbc B) pc = .ok (.ifCond .gt off, 3)) (ht : (pc : Int) + off = (tgt : Int)) (kt : 0 < x → Z B tgt lv st h ce sl) (kf : ¬ 0 < x → Z B (pc + 3) lv st h ce sl) : Z B pc lv (.int x :: st) h ce sl := by
  intro p e R s m args below meth c g Qf hF hO H locs ls hH hS hl0
  exact lv_if_gt hO.1 hO.2.1 hd ht (fun q => kt q p e R s m args below meth c g Qf hF hO H locs ls hH hS hl0) (fun q => kf q p e R s m args below meth c g Qf hF hO H locs ls hH hS hl0)
theorem z_icmp_gt {x y : Int32} {off : Int} (tgt : Nat) (hd : decode (zbc B) pc = .ok (.if_icmp .gt off, 3)) (ht : (pc : Int) + off = (tgt : Int)) (kt : y < x → Z B tgt lv st h ce sl) (kf : ¬ y < x → Z B (pc + 3) lv st h ce sl) : Z B pc lv (.int y :: .int x :: st) h ce sl := by
  intro p e R s m args below meth c g Qf hF hO H locs ls hH hS hl0
  exact lv_icmp_gt hO.1 hO.2.1 hd ht (fun q => kt q p e R s m args below meth c g Qf hF hO H locs ls hH hS hl0) (fun q => kf q p e R s m args below meth c g Qf hF hO H locs ls hH hS hl0)
theorem z_if_le {x : Int32} {off : Int} (tgt : Nat) (hd : decode (zbc B) pc = .ok (.ifCond .le off, 3)) (ht : (pc : Int) + off = (tgt : Int)) (kt : x ≤ 0 → Z B tgt lv st h ce sl) (kf : ¬ x ≤ 0 → Z B (pc + 3) lv st h ce sl) : Z B pc lv (.int x :: st) h ce sl := by
  intro p e R s m args below meth c g Qf hF hO H locs ls hH hS hl0
  exact lv_if_le hO.1 hO.2.1 hd ht (fun q => kt q p e R s m args below meth c g Qf hF hO H locs ls hH hS hl0) (fun q => kf q p e R s m args below meth c g Qf hF hO H locs ls hH hS hl0)
theorem z_icmp_le {x y : Int32} {off : Int} (tgt : Nat) (hd : decode (zbc B) pc = .ok (.if_icmp .le off, 3)) (ht : (pc : Int) + off = (tgt : Int)) (kt : x ≤ y → Z B tgt lv st h ce sl) (kf : ¬ x ≤ y → Z B (pc + 3) lv st h ce sl) : Z B pc lv (.int y :: .int x :: st) h ce sl := by
  intro p e R s m args below meth c g Qf hF hO H locs ls hH hS hl0
  exact lv_icmp_le hO.1 hO.2.1 hd ht (fun q => kt q p e R s m args below meth c g Qf hF hO H locs ls hH hS hl0) (fun q => kf q p e R s m args below meth c g Qf hF hO H locs ls hH hS hl0)
theorem z_goto {off : Int} (tgt : Nat) (hd : decode (zbc B) pc = .ok (.goto off, 3)) (ht : (pc : Int) + off = (tgt : Int)) (k : Z B (tgt) lv (st) h ce sl) : Z B pc lv (st) h ce sl := by
  intro p e R s m args below meth c g Qf hF hO H locs ls hH hS hl0
  exact lv_goto hO.1 hO.2.1 hd ht (k p e R s m args below meth c g Qf hF hO H locs ls hH hS hl0)
theorem z_ifnonnull {off : Int} {x : Nat} (tgt : Nat) (hd : decode (zbc B) pc = .ok (.ifnonnull off, 3)) (ht : (pc : Int) + off = (tgt : Int)) (k : Z B (tgt) lv (st) h ce sl) : Z B pc lv (.ref x :: st) h ce sl := by
  intro p e R s m args below meth c g Qf hF hO H locs ls hH hS hl0
  exact lv_ifnonnull hO.1 hO.2.1 hd ht (k p e R s m args below meth c g Qf hF hO H locs ls hH hS hl0)
theorem z_ifnull {off : Int} {x : Nat} (hd : decode (zbc B) pc = .ok (.ifnull off, 3)) (k : Z B (pc + 3) lv (st) h ce sl) : Z B pc lv (.ref x :: st) h ce sl := by
  intro p e R s m args below meth c g Qf hF hO H locs ls hH hS hl0
  exact lv_ifnull hO.1 hO.2.1 hd (k p e R s m args below meth c g Qf hF hO H locs ls hH hS hl0)
theorem z_ifnullN {off : Int} (tgt : Nat) (hd : decode (zbc B) pc = .ok (.ifnull off, 3)) (ht : (pc : Int) + off = (tgt : Int)) (k : Z B (tgt) lv (st) h ce sl) : Z B pc lv (.null :: st) h ce sl := by
  intro p e R s m args below meth c g Qf hF hO H locs ls hH hS hl0
  exact lv_ifnullN hO.1 hO.2.1 hd ht (k p e R s m args below meth c g Qf hF hO H locs ls hH hS hl0)
theorem z_ifnonnullN {off : Int} (hd : decode (zbc B) pc = .ok (.ifnonnull off, 3)) (k : Z B (pc + 3) lv (st) h ce sl) : Z B pc lv (.null :: st) h ce sl := by
  intro p e R s m args below meth c g Qf hF hO H locs ls hH hS hl0
  exact lv_ifnonnullN hO.1 hO.2.1 hd (k p e R s m args below meth c g Qf hF hO H locs ls hH hS hl0)
theorem z_lookup {dflt : Int} {ps : Array (Int × Int)} {len : Nat} {x : Int32} {off : Int} (tgt : Nat) (hd : decode (zbc B) pc = .ok (.lookupswitch dflt ps, len)) (hp : (ps.toList.zip (ps.toList.drop 1)).all (fun (a, next) => a.1 < next.1) = true) (ho : Op.lookupswitch.offset ps.toList dflt x.toInt = off) (ht : (pc : Int) + off = (tgt : Int)) (k : Z B (tgt) lv (st) h ce sl) : Z B pc lv (.int x :: st) h ce sl := by
  intro p e R s m args below meth c g Qf hF hO H locs ls hH hS hl0
  exact lv_lookup hO.1 hO.2.1 hd hp ho ht (k p e R s m args below meth c g Qf hF hO H locs ls hH hS hl0)
theorem z_tableOut {dflt lo hi : Int} {offs : Array Int} {len : Nat} {x : Int32} (tgt : Nat) (hd : decode (zbc B) pc = .ok (.tableswitch dflt lo hi offs, len)) (h1 : x.toInt < lo ∨ hi < x.toInt) (ht : (pc : Int) + dflt = (tgt : Int)) (k : Z B (tgt) lv (st) h ce sl) : Z B pc lv (.int x :: st) h ce sl := by
  intro p e R s m args below meth c g Qf hF hO H locs ls hH hS hl0
  exact lv_tableOut hO.1 hO.2.1 hd h1 ht (k p e R s m args below meth c g Qf hF hO H locs ls hH hS hl0)
theorem z_tableIn {dflt lo hi : Int} {offs : Array Int} {len : Nat} {x : Int32} {off : Int} (tgt : Nat) (hd : decode (zbc B) pc = .ok (.tableswitch dflt lo hi offs, len)) (h1 : ¬ x.toInt < lo) (h2 : ¬ hi < x.toInt) (ho : offs[(x.toInt - lo).toNat]? = some off) (ht : (pc : Int) + off = (tgt : Int)) (k : Z B (tgt) lv (st) h ce sl) : Z B pc lv (.int x :: st) h ce sl := by
  intro p e R s m args below meth c g Qf hF hO H locs ls hH hS hl0
  exact lv_tableIn hO.1 hO.2.1 hd h1 h2 ho ht (k p e R s m args below meth c g Qf hF hO H locs ls hH hS hl0)
theorem z_topi {x : Int32} (k : ∀ y : Int32, y = x → Z B pc lv (.int y :: st) h ce sl) : Z B pc lv (.int x :: st) h ce sl := k x rfl
theorem z_topl {x : Int64} (k : ∀ y : Int64, y = x → Z B pc lv (.long y :: st) h ce sl) : Z B pc lv (.long x :: st) h ce sl := k x rfl
theorem z_eq {st' : List Value} {h' : zH} (h1 : st = st') (h2 : h = h') (k : Z B pc lv st' h' ce sl) : Z B pc lv st h ce sl := by subst h1; subst h2; exact k
end ZI

/-! arrays, fields, calls, answers -/
theorem zO.K {g : zG} {s : State} {h : zH} {H : Heap} (hK : zK g s) (hO : zO g s h H) {k : Nat} {ty : FieldType} {x : vp_A} (he : h[k]? = some (.inl (ty, x))) : va_K g.2.1 vwCl [(zkap g ty, ty)] s := by
  refine ⟨hK.1.1, fun i q hi => ?_⟩
  have hz : i < 1 := (List.getElem?_eq_some_iff.mp hi).1
  rw [show i = 0 by omega] at hi
  cases hi
  exact hO.2.2.2 k ty x he
/-- a cell anew -/
theorem zO.set {g : zG} {s : State} {h : zH} {H H1 : Heap} {q : Nat} {e0 e1 : zE} (hO : zO g s h H) (he : h[q]? = some e0) (ht : ∀ ty x, e1 = .inl (ty, x) → ∃ x0, e0 = .inl (ty, x0)) (hz : H1.size = H.size) (ha : va_at g.2.1 vwCl (za g q, zc g e1) H1) (oq : ∀ a : Nat, a ≠ za g q → H1[a]? = H[a]?) : zO g s (h.set q e1) H1 := by
  obtain ⟨h1, h2, h3, h4⟩ := hO
  refine ⟨by rw [← zw_set]; exact h1.set (zD h3) (zw_get he) ha oq, by rw [hz, h2, List.length_set], by rw [List.length_set]; exact h3, fun k ty x hk => ?_⟩
  by_cases hkq : q = k
  · subst hkq
    rw [List.getElem?_set_self (List.getElem?_eq_some_iff.mp he).1] at hk
    obtain ⟨x0, hx0⟩ := ht ty x (Option.some.inj hk)
    subst hx0
    exact h4 _ ty x0 he
  · rw [List.getElem?_set_ne hkq] at hk
    exact h4 k ty x hk
theorem zA_at {g : zG} {s : State} {h : zH} {H : Heap} {q : Nat} {e0 : zE} (hO : zO g s h H) (he : h[q]? = some e0) : zA g (za g q) := by
  have hlt := (List.getElem?_eq_some_iff.mp he).1
  show zbase g ≤ za g q
  rw [za_lt (Nat.lt_of_lt_of_le hlt hO.2.2.1)]
  omega
section ZA
variable {B : zB} {pc : Nat} {lv lv' : zL} {st : List Value} {h : zH} {ce sl : Nat}
theorem z_alen {q : Nat} {ty : FieldType} {x : vp_A} (v : Int32) (hd : decode (zbc B) pc = .ok (.arraylength, 1)) (he : h[q]? = some (.inl (ty, x))) (hv : Int32.ofNat x.1 = v) (k : Z B (pc + 1) lv (.int v :: st) h ce sl) : Z B pc lv (.ref q :: st) h ce sl := by
  intro p e R s m args below meth c g Qf hF hO H locs ls hH hS hl0
  exact va_alen hO.1 hO.2.1 (hH.K hO.2.2.2.2.2.2.2.2.2.2.2.2.1 he) hH.1 q 0 (zw_get he) rfl hv hd (k p e R s m args below meth c g Qf hF hO H locs ls hH hS hl0)

theorem z_iald {q n : Nat} {f : Nat → Int32} {i : Int32} (hd : decode (zbc B) pc = .ok (.iaload, 1)) (he : h[q]? = some (.inl (.int, n, .inl f))) (hin : vp_in i n) (k : Z B (pc + 1) lv (.int (f i.toNatClampNeg) :: st) h ce sl) : Z B pc lv (.int i :: .ref q :: st) h ce sl := by
  intro p e R s m args below meth c g Qf hF hO H locs ls hH hS hl0
  exact va_iald hO.1 hO.2.1 (hH.K hO.2.2.2.2.2.2.2.2.2.2.2.2.1 he) hH.1 q 0 (zw_get he) rfl hin hd (k p e R s m args below meth c g Qf hF hO H locs ls hH hS hl0)
theorem z_bald {q n : Nat} {f : Nat → Int32} {i : Int32} (hd : decode (zbc B) pc = .ok (.baload, 1)) (he : h[q]? = some (.inl (.byte, n, .inl f))) (hin : vp_in i n) (k : Z B (pc + 1) lv (.int (f i.toNatClampNeg) :: st) h ce sl) : Z B pc lv (.int i :: .ref q :: st) h ce sl := by
  intro p e R s m args below meth c g Qf hF hO H locs ls hH hS hl0
  exact va_bald hO.1 hO.2.1 (hH.K hO.2.2.2.2.2.2.2.2.2.2.2.2.1 he) hH.1 q 0 (zw_get he) rfl hin hd (k p e R s m args below meth c g Qf hF hO H locs ls hH hS hl0)
theorem z_zald {q n : Nat} {f : Nat → Int32} {i : Int32} (hd : decode (zbc B) pc = .ok (.baload, 1)) (he : h[q]? = some (.inl (.boolean, n, .inl f))) (hin : vp_in i n) (k : Z B (pc + 1) lv (.int (f i.toNatClampNeg) :: st) h ce sl) : Z B pc lv (.int i :: .ref q :: st) h ce sl := by
  intro p e R s m args below meth c g Qf hF hO H locs ls hH hS hl0
  exact va_zald hO.1 hO.2.1 (hH.K hO.2.2.2.2.2.2.2.2.2.2.2.2.1 he) hH.1 q 0 (zw_get he) rfl hin hd (k p e R s m args below meth c g Qf hF hO H locs ls hH hS hl0)
theorem z_cald {q n : Nat} {f : Nat → Int32} {i : Int32} (hd : decode (zbc B) pc = .ok (.caload, 1)) (he : h[q]? = some (.inl (.char, n, .inl f))) (hin : vp_in i n) (k : Z B (pc + 1) lv (.int (f i.toNatClampNeg) :: st) h ce sl) : Z B pc lv (.int i :: .ref q :: st) h ce sl := by
  intro p e R s m args below meth c g Qf hF hO H locs ls hH hS hl0
  exact va_cald hO.1 hO.2.1 (hH.K hO.2.2.2.2.2.2.2.2.2.2.2.2.1 he) hH.1 q 0 (zw_get he) rfl hin hd (k p e R s m args below meth c g Qf hF hO H locs ls hH hS hl0)
theorem z_sald {q n : Nat} {f : Nat → Int32} {i : Int32} (hd : decode (zbc B) pc = .ok (.saload, 1)) (he : h[q]? = some (.inl (.short, n, .inl f))) (hin : vp_in i n) (k : Z B (pc + 1) lv (.int (f i.toNatClampNeg) :: st) h ce sl) : Z B pc lv (.int i :: .ref q :: st) h ce sl := by
  intro p e R s m args below meth c g Qf hF hO H locs ls hH hS hl0
  exact va_sald hO.1 hO.2.1 (hH.K hO.2.2.2.2.2.2.2.2.2.2.2.2.1 he) hH.1 q 0 (zw_get he) rfl hin hd (k p e R s m args below meth c g Qf hF hO H locs ls hH hS hl0)
theorem z_lald {q n : Nat} {f : Nat → Int64} {i : Int32} (hd : decode (zbc B) pc = .ok (.laload, 1)) (he : h[q]? = some (.inl (.long, n, .inr (.inl f)))) (hin : vp_in i n) (k : Z B (pc + 1) lv (.long (f i.toNatClampNeg) :: st) h ce sl) : Z B pc lv (.int i :: .ref q :: st) h ce sl := by
  intro p e R s m args below meth c g Qf hF hO H locs ls hH hS hl0
  exact va_lald hO.1 hO.2.1 (hH.K hO.2.2.2.2.2.2.2.2.2.2.2.2.1 he) hH.1 q 0 (zw_get he) rfl hin hd (k p e R s m args below meth c g Qf hF hO H locs ls hH hS hl0)
theorem z_iast {q n : Nat} {f : Nat → Int32} {i x : Int32} (hd : decode (zbc B) pc = .ok (.iastore, 1)) (he : h[q]? = some (.inl (.int, n, .inl f))) (hin : vp_in i n) (k : Z B (pc + 1) lv st (h.set q (.inl (.int, n, .inl (upd f i.toNatClampNeg x)))) ce sl) : Z B pc lv (.int x :: .int i :: .ref q :: st) h ce sl := by
  intro p e R s m args below meth c g Qf hF hO H locs ls hH hS hl0
  have hK1 := hH.K hO.2.2.2.2.2.2.2.2.2.2.2.2.1 he
  refine W.iast hO.1 hO.2.1 (hH.1 q _ (zw_get he)) ((hK1.2 0 _ rfl).1 n (fun j => .int (f j))) (fun q => by cases q) (by show ¬ (i < 0 ∨ (arrV _ _ _).slots.size ≤ _); rw [arrV_size]; exact hin) rfl rfl hd fun H1 e1 z oq => ?_
  refine k p e R s m args below meth c g Qf hF hO H1 _ ls (hH.set he (fun ty x0 h0 => ?_) z ?_ oq) (hS.put z oq (zA_at hH he)) hl0
  · cases h0
    exact ⟨_, rfl⟩
  · show H1[za g q]? = some (vp_cell _ _)
    rw [e1]
    show some ((vp_cell _ (n, .inl f)).setSlot _ _) = some (vp_cell _ (n, .inl _))
    rw [vp_cell_i, vp_cell_i, arrV_store]
    congr 2
    funext j
    by_cases hq : j = i.toNatClampNeg
    · subst hq
      simp [updV, upd, vp_nar]
      try rfl
    · simp [updV, upd, hq]
theorem z_bast {q n : Nat} {f : Nat → Int32} {i x : Int32} (hd : decode (zbc B) pc = .ok (.bastore, 1)) (he : h[q]? = some (.inl (.byte, n, .inl f))) (hin : vp_in i n) (k : Z B (pc + 1) lv st (h.set q (.inl (.byte, n, .inl (upd f i.toNatClampNeg (vp_nar .byte x))))) ce sl) : Z B pc lv (.int x :: .int i :: .ref q :: st) h ce sl := by
  intro p e R s m args below meth c g Qf hF hO H locs ls hH hS hl0
  have hK1 := hH.K hO.2.2.2.2.2.2.2.2.2.2.2.2.1 he
  refine W.bast hO.1 hO.2.1 (hH.1 q _ (zw_get he)) ((hK1.2 0 _ rfl).1 n (fun j => .int (f j))) (fun q => by cases q) (by show ¬ (i < 0 ∨ (arrV _ _ _).slots.size ≤ _); rw [arrV_size]; exact hin) rfl rfl hd fun H1 e1 z oq => ?_
  refine k p e R s m args below meth c g Qf hF hO H1 _ ls (hH.set he (fun ty x0 h0 => ?_) z ?_ oq) (hS.put z oq (zA_at hH he)) hl0
  · cases h0
    exact ⟨_, rfl⟩
  · show H1[za g q]? = some (vp_cell _ _)
    rw [e1]
    show some ((vp_cell _ (n, .inl f)).setSlot _ _) = some (vp_cell _ (n, .inl _))
    rw [vp_cell_i, vp_cell_i, arrV_store]
    congr 2
    funext j
    by_cases hq : j = i.toNatClampNeg
    · subst hq
      simp [updV, upd, vp_nar]
      try rfl
    · simp [updV, upd, hq]
theorem z_zast {q n : Nat} {f : Nat → Int32} {i x : Int32} (hd : decode (zbc B) pc = .ok (.bastore, 1)) (he : h[q]? = some (.inl (.boolean, n, .inl f))) (hin : vp_in i n) (k : Z B (pc + 1) lv st (h.set q (.inl (.boolean, n, .inl (upd f i.toNatClampNeg (vp_nar .boolean x))))) ce sl) : Z B pc lv (.int x :: .int i :: .ref q :: st) h ce sl := by
  intro p e R s m args below meth c g Qf hF hO H locs ls hH hS hl0
  have hK1 := hH.K hO.2.2.2.2.2.2.2.2.2.2.2.2.1 he
  refine W.zast hO.1 hO.2.1 (hH.1 q _ (zw_get he)) ((hK1.2 0 _ rfl).1 n (fun j => .int (f j))) (fun q => by cases q) (by show ¬ (i < 0 ∨ (arrV _ _ _).slots.size ≤ _); rw [arrV_size]; exact hin) rfl rfl hd fun H1 e1 z oq => ?_
  refine k p e R s m args below meth c g Qf hF hO H1 _ ls (hH.set he (fun ty x0 h0 => ?_) z ?_ oq) (hS.put z oq (zA_at hH he)) hl0
  · cases h0
    exact ⟨_, rfl⟩
  · show H1[za g q]? = some (vp_cell _ _)
    rw [e1]
    show some ((vp_cell _ (n, .inl f)).setSlot _ _) = some (vp_cell _ (n, .inl _))
    rw [vp_cell_i, vp_cell_i, arrV_store]
    congr 2
    funext j
    by_cases hq : j = i.toNatClampNeg
    · subst hq
      simp [updV, upd, vp_nar]
      try rfl
    · simp [updV, upd, hq]
theorem z_cast {q n : Nat} {f : Nat → Int32} {i x : Int32} (hd : decode (zbc B) pc = .ok (.castore, 1)) (he : h[q]? = some (.inl (.char, n, .inl f))) (hin : vp_in i n) (k : Z B (pc + 1) lv st (h.set q (.inl (.char, n, .inl (upd f i.toNatClampNeg (vp_nar .char x))))) ce sl) : Z B pc lv (.int x :: .int i :: .ref q :: st) h ce sl := by
  intro p e R s m args below meth c g Qf hF hO H locs ls hH hS hl0
  have hK1 := hH.K hO.2.2.2.2.2.2.2.2.2.2.2.2.1 he
  refine W.cast hO.1 hO.2.1 (hH.1 q _ (zw_get he)) ((hK1.2 0 _ rfl).1 n (fun j => .int (f j))) (fun q => by cases q) (by show ¬ (i < 0 ∨ (arrV _ _ _).slots.size ≤ _); rw [arrV_size]; exact hin) rfl rfl hd fun H1 e1 z oq => ?_
  refine k p e R s m args below meth c g Qf hF hO H1 _ ls (hH.set he (fun ty x0 h0 => ?_) z ?_ oq) (hS.put z oq (zA_at hH he)) hl0
  · cases h0
    exact ⟨_, rfl⟩
  · show H1[za g q]? = some (vp_cell _ _)
    rw [e1]
    show some ((vp_cell _ (n, .inl f)).setSlot _ _) = some (vp_cell _ (n, .inl _))
    rw [vp_cell_i, vp_cell_i, arrV_store]
    congr 2
    funext j
    by_cases hq : j = i.toNatClampNeg
    · subst hq
      simp [updV, upd, vp_nar]
      try rfl
    · simp [updV, upd, hq]
theorem z_last {q n : Nat} {f : Nat → Int64} {i : Int32} {x : Int64} (hd : decode (zbc B) pc = .ok (.lastore, 1)) (he : h[q]? = some (.inl (.long, n, .inr (.inl f)))) (hin : vp_in i n) (k : Z B (pc + 1) lv st (h.set q (.inl (.long, n, .inr (.inl (fun j => if j = i.toNatClampNeg then x else f j))))) ce sl) : Z B pc lv (.long x :: .int i :: .ref q :: st) h ce sl := by
  intro p e R s m args below meth c g Qf hF hO H locs ls hH hS hl0
  have hK1 := hH.K hO.2.2.2.2.2.2.2.2.2.2.2.2.1 he
  refine W.last hO.1 hO.2.1 (hH.1 q _ (zw_get he)) ((hK1.2 0 _ rfl).1 n (fun j => .long (f j))) (fun q => by cases q) (by show ¬ (i < 0 ∨ (arrV _ _ _).slots.size ≤ _); rw [arrV_size]; exact hin) rfl rfl hd fun H1 e1 z oq => ?_
  refine k p e R s m args below meth c g Qf hF hO H1 _ ls (hH.set he (fun ty x0 h0 => ?_) z ?_ oq) (hS.put z oq (zA_at hH he)) hl0
  · cases h0
    exact ⟨_, rfl⟩
  · show H1[za g q]? = some (vp_cell _ _)
    rw [e1]
    show some ((vp_cell _ (n, .inr (.inl f))).setSlot _ _) = some (vp_cell _ (n, .inr (.inl _)))
    rw [vp_cell_l, vp_cell_l, arrV_store]
    congr 2
    funext j
    by_cases hq : j = i.toNatClampNeg
    · subst hq
      simp [updV]
    · simp [updV, hq]
end ZA
/-! calls -/
theorem zPz_blind (g : zG) (av : List Value) (h : zH) : FrameBlind (zPz g av h) := fun a U gg mk q =>
  ⟨q.1, zK.same (u := U) (U := U.calling gg mk a) rfl rfl q.2.1, zO.moved (u := U) (U := U.calling gg mk a) (Vm.Alike.refl U.vm) q.2.2⟩
theorem zPz_pre {g : zG} {s : State} {h : zH} {H : Heap} {locs : List Loc} (av : List Value) (hK : zK g s) (hO : zO g s h H) (hS : va_S (zA g) s.heap H locs) : ∀ U : State, U.heap = H → s.WarmedH U.vm → zPz g av h (av.map (zv g)).toArray U := fun U hU hW =>
  ⟨rfl, hK.moved hW (by rw [hU]; exact ⟨hS.1, hS.2.1, fun _ h => by cases h⟩), by rw [hU]; exact hO.moved hW.alike⟩
theorem z_run {p : Program} {e : Env} {R : Room} {s : State} {m : MethodId} {args : Array Value} {below : List Frame} {meth : Method} {c : Code} {g : zG} {Qf : State → Prop} {H : Heap} {locs : List Loc} {ce sl mc ms pc : Nat} {ls : Array Slot} {st0 rest : List Value} {Q : Option Value → zH → Prop} {a : Array Value}
    (hr : va_Run p g.1 e R s m args below meth c H locs ce sl mc ms (F0 m pc ls st0) rest (zQz g Q a) (zA g)) (hS : va_S (zA g) s.heap H locs)
    (kk : ∀ (r : Option Value) (h1 : zH) (H1 : Heap) (locs1 : List Loc), Q r h1 → zO g s h1 H1 → va_S (zA g) s.heap H1 locs1 → W p g.1 e R s m args below meth c H1 locs1 (ce + mc) (sl + ms) Qf (F0 m (pc + 3) ls ((r.map (zv g)).toList ++ rest))) : W p g.1 e R s m args below meth c H locs ce sl Qf (F0 m pc ls st0) := by
  intro T hT X
  obtain ⟨v, st₀, t, T', L, h0, X', hL, e1, e2, ⟨⟨r, h1, hv, hq, hO⟩, hz, hk⟩, st⟩ := hr T hT X
  cases hv
  rw [h0] at hz hk
  have hal : s.vm.Alike t.vm := by rw [← e2]; exact X'.warmed.alike
  obtain ⟨t2, a1, b1⟩ := kk r h1 T'.heap (locs ++ L) hq (by rw [e1]; exact hO.moved hal.symm)
    ⟨Nat.le_trans hS.1 (by rw [e1]; exact hz), fun q h1 h2 => by rw [e1, hk q (Nat.lt_of_lt_of_le h1 hS.1) h2]; exact hS.2.1 q h1 h2, fun q hq => by
      rcases List.mem_append.mp hq with h | h
      · exact hS.2.2 q h
      · exact hL q h⟩ T' rfl X'
  exact ⟨t2, st t2 a1, b1⟩
theorem z_ret_list (g : zG) (r : Option Value) (st : List Value) : (r.map (zv g)).toList ++ st.map (zv g) = (r.toList ++ st).map (zv g) := by cases r <;> simp
theorem z_cat (g : zG) (st : List Value) : ((st.map (zv g)).map fun v => v.category) = st.map fun v => v.category := by
  simp [Function.comp_def, zv_cat]
/-- what a call of Mj, at the entry idx of own's pool, needs of the tables, whatever the kind -/
def zCall (own : String) (idx : Nat) (Mj : zM) (n : Nat) : Prop := zcw Mj ∈ zT ∧ Cond.initialized (zy Mj).cls ∈ zT ∧ ((zy Mj).cls ≠ "java/lang/invoke/MethodHandle" ∧ (zy Mj).cls ≠ "java/lang/invoke/VarHandle" ∧ (parseMethodDescriptor (zy Mj).desc).map (fun d => d.parameters.length) = some n) ∧ zmL Mj ≤ 41 ∧ (Cond.methodLink own idx (zy Mj) ∈ zT ∨ ∃ host, Cond.methodLinkNest own idx (zy Mj) host ∈ zNW)
def zCallS (own : String) (idx : Nat) (Mj : zM) (n : Nat) : Prop := zCall own idx Mj n ∧ Cond.static (zy Mj) ∈ zT
def zCallV (own : String) (idx : Nat) (Mj : zM) (n : Nat) : Prop := zCall own idx Mj n ∧ Cond.instanceMethod (zy Mj) ∈ zT ∧ Cond.selects (zy Mj).cls (zy Mj) (zy Mj) ∈ zT
def zCallI (own : String) (idx : Nat) (Mj : zM) (n : Nat) : Prop := zCall own idx Mj n ∧ Cond.instanceMethod (zy Mj) ∈ zT ∧ (zy Mj).name = "<init>" ∧ zrt Mj = none
theorem zG1 {w : Cond} (h : w ∈ zT) : w ∈ zT ∧ ((w.onTables && w.keeps) = true ∨ ∃ ty, w = .arrayClass ty) := ⟨h, good_of_word (zgood h)⟩
theorem zGi {M : zM} (h : zcw M ∈ zT) : GoodIn zT (zws M) := fun w hw => by
  rcases List.mem_cons.mp hw with rfl | hw
  · exact zG1 h
  · exact zG1 hw
theorem z_fit {D : Nat} {Mj : zM} {R : Room} {d mc ms : Nat} (h1 : D ≤ R.frames) (h2 : 60 * D ≤ R.locals) (hd : d + 1 ≤ D) (hm : zmL Mj ≤ 41) : (zrm d mc ms).frames + 1 ≤ R.frames ∧ 8 + (zmL Mj + 11) + (zrm d mc ms).locals ≤ R.locals := by
  refine ⟨Nat.le_trans hd h1, ?_⟩
  show 8 + (zmL Mj + 11) + 60 * d ≤ R.locals
  omega
section ZC
variable {B : zB} {pc : Nat} {lv : zL} {st : List Value} {h : zH} {ce sl : Nat}
theorem z_callS {Mj : zM} {d mc ms idx n : Nat} {Q : Option Value → zH → Prop} (av : List Value) (hw : zCallS (zy (zbM B)).cls idx Mj n) (hE : Ev Mj d mc ms av h Q) (hd : decode (zbc B) pc = .ok (.invokestatic idx, 3)) (hn : av.length = n) (hst : (st.map fun v => v.category).sum ≤ 8) (hD : d + 1 ≤ zbD B) (hc : ce + mc ≤ B.2.2.1) (hs : sl + ms ≤ B.2.2.2.1)
    (k : ∀ (r : Option Value) (h1 : zH), Q r h1 → Z B (pc + 3) lv (r.toList ++ st) h1 (ce + mc) (sl + ms)) : Z B pc lv (av.reverse ++ st) h ce sl := by
  intro p e R s m args below meth c g Qf hF hO H locs ls hH hS hl0
  obtain ⟨hx, hcd, hml, hown, hts, -, -, -, hf1, hf2, hf3, hf4, hK, -⟩ := id hO
  obtain ⟨⟨w1, w2, hyd, hm, hl⟩, w3⟩ := hw
  rcases hl with hl | ⟨host, hl⟩
  · have hG : GoodIn zT (va_wsS (zy (zbM B)).cls idx (zy Mj) (zws Mj)) := fun w hw => by
      rcases List.mem_append.mp hw with hw | hw
      · rcases List.mem_cons.mp hw with rfl | hw
        · exact zG1 hl
        · rcases List.mem_cons.mp hw with rfl | hw
          · exact zG1 w3
          · rw [List.mem_singleton.mp hw]; exact zG1 w2
      · exact zGi w1 w hw
    refine z_run (va_runS (As := av.map (zv g)) (rest := st.map (zv g)) ⟨hx, hcd, hml, hown, hts⟩ (hE g) (va_cwS n hts hG rfl rfl rfl hyd (z_fit hf1 hf2 hD hm)) ⟨zPz_blind g av h, zPz_pre av hK hH hS⟩ rfl (by rw [List.length_map]; exact hn) hl0.1 (by simp [zv_ref]) (lv_room (by rw [z_cat]; exact hst)) hd ⟨Nat.le_trans hc hf3, Nat.le_trans hs hf4⟩) hS fun r h1 H1 locs1 hq hO1 hS1 => ?_
    rw [z_ret_list]
    exact k r h1 hq p e R s m args below meth c g Qf hF hO H1 locs1 ls hO1 hS1 hl0
  · refine z_run (va_runSN (As := av.map (zv g)) (rest := st.map (zv g)) ⟨hx, hcd, hml, hown, hts⟩ (hE g) ⟨va_cnB n hts (zGi w1) rfl rfl rfl (hK.2.2.1 _ hl) (hts _ w2) hyd (z_fit hf1 hf2 hD hm), hts _ w3, trivial⟩ ⟨zPz_blind g av h, zPz_pre av hK hH hS⟩ rfl (by rw [List.length_map]; exact hn) hl0.1 (by simp [zv_ref]) (lv_room (by rw [z_cat]; exact hst)) hd ⟨Nat.le_trans hc hf3, Nat.le_trans hs hf4⟩) hS fun r h1 H1 locs1 hq hO1 hS1 => ?_
    rw [z_ret_list]
    exact k r h1 hq p e R s m args below meth c g Qf hF hO H1 locs1 ls hO1 hS1 hl0
theorem z_callV {Mj : zM} {d mc ms idx n q ci N : Nat} {T : u_T} {fs : List Value} {Q : Option Value → zH → Prop} (av : List Value) (hw : zCallV (zy (zbM B)).cls idx Mj n) (hE : Ev Mj d mc ms (.ref q :: av) h Q) (hci : vwCl[ci]? = some ((zy Mj).cls, T, N)) (hd : decode (zbc B) pc = .ok (.invokevirtual idx, 3)) (hq : h[q]? = some (.inr (ci, fs))) (hn : av.length = n) (hst : (st.map fun v => v.category).sum ≤ 8) (hD : d + 1 ≤ zbD B) (hc : ce + mc ≤ B.2.2.1) (hs : sl + ms ≤ B.2.2.2.1)
    (k : ∀ (r : Option Value) (h1 : zH), Q r h1 → Z B (pc + 3) lv (r.toList ++ st) h1 (ce + mc) (sl + ms)) : Z B pc lv (av.reverse ++ .ref q :: st) h ce sl := by
  intro p e R s m args below meth c g Qf hF hO H locs ls hH hS hl0
  obtain ⟨hx, hcd, hml, hown, hts, -, -, -, hf1, hf2, hf3, hf4, hK, -⟩ := id hO
  obtain ⟨⟨w1, w2, hyd, hm, hl⟩, w3, w4⟩ := hw
  have hr := va_recv hK.1 hH.1 hci (zw_get (g := g) hq)
  rcases hl with hl | ⟨host, hl⟩
  · have hG : GoodIn zT (wsV (zy (zbM B)).cls idx (zy Mj).cls (zy Mj) (zws Mj)) := fun w hw => by
      rcases List.mem_append.mp hw with hw | hw
      · rcases List.mem_cons.mp hw with rfl | hw
        · exact zG1 hl
        · rcases List.mem_cons.mp hw with rfl | hw
          · exact zG1 w3
          · rcases List.mem_cons.mp hw with rfl | hw
            · exact zG1 w4
            · rw [List.mem_singleton.mp hw]; exact zG1 w2
      · exact zGi w1 w hw
    refine z_run (va_runV (C := (zy Mj).cls) (b := za g q) (As := av.map (zv g)) (rest := st.map (zv g)) ⟨hx, hcd, hml, hown, hts⟩ (hE g) (cwV n hts hG rfl rfl rfl ⟨rfl, hyd⟩ (z_fit hf1 hf2 hD hm)) ⟨zPz_blind g _ h, hr, zPz_pre (.ref q :: av) hK hH hS⟩ rfl (by rw [List.length_map]; exact hn) hl0.1 (by simp [zv_ref]) (lv_room (by rw [z_cat]; exact hst)) hd ⟨Nat.le_trans hc hf3, Nat.le_trans hs hf4⟩) hS fun r h1 H1 locs1 hq hO1 hS1 => ?_
    rw [z_ret_list]
    exact k r h1 hq p e R s m args below meth c g Qf hF hO H1 locs1 ls hO1 hS1 hl0
  · refine z_run (va_runVN (C := (zy Mj).cls) (b := za g q) (As := av.map (zv g)) (rest := st.map (zv g)) ⟨hx, hcd, hml, hown, hts⟩ (hE g) ⟨va_cnB n hts (zGi w1) rfl rfl rfl (hK.2.2.1 _ hl) (hts _ w2) hyd (z_fit hf1 hf2 hD hm), hts _ w3, hts _ w4⟩ ⟨zPz_blind g _ h, hr, zPz_pre (.ref q :: av) hK hH hS⟩ rfl (by rw [List.length_map]; exact hn) hl0.1 (by simp [zv_ref]) (lv_room (by rw [z_cat]; exact hst)) hd ⟨Nat.le_trans hc hf3, Nat.le_trans hs hf4⟩) hS fun r h1 H1 locs1 hq hO1 hS1 => ?_
    rw [z_ret_list]
    exact k r h1 hq p e R s m args below meth c g Qf hF hO H1 locs1 ls hO1 hS1 hl0
theorem z_callI {Mj : zM} {d mc ms idx n q : Nat} {Q : Option Value → zH → Prop} (av : List Value) (hw : zCallI (zy (zbM B)).cls idx Mj n) (hE : Ev Mj d mc ms (.ref q :: av) h Q) (hd : decode (zbc B) pc = .ok (.invokespecial idx, 3)) (hn : av.length = n) (hst : (st.map fun v => v.category).sum ≤ 8) (hD : d + 1 ≤ zbD B) (hc : ce + mc ≤ B.2.2.1) (hs : sl + ms ≤ B.2.2.2.1)
    (k : ∀ (r : Option Value) (h1 : zH), Q r h1 → Z B (pc + 3) lv (r.toList ++ st) h1 (ce + mc) (sl + ms)) : Z B pc lv (av.reverse ++ .ref q :: st) h ce sl := by
  intro p e R s m args below meth c g Qf hF hO H locs ls hH hS hl0
  obtain ⟨hx, hcd, hml, hown, hts, -, -, -, hf1, hf2, hf3, hf4, hK, -⟩ := id hO
  obtain ⟨⟨w1, w2, hyd, hm, hl⟩, w3, hy1, hrt⟩ := hw
  have hcode : zws Mj = Cond.code (zy Mj) (zcc Mj) (zmL Mj) none :: zT := by rw [← hrt]; rfl
  rcases hl with hl | ⟨host, hl⟩
  · refine z_run (va_runI (b := za g q) (As := av.map (zv g)) (rest := st.map (zv g)) ⟨hx, hcd, hml, hown, hts⟩ (hE g) (cwI n hts (zGi w1) hcode rfl rfl (hts _ w2) (hts _ hl) (hts _ w3) hy1 hyd (z_fit hf1 hf2 hD hm)) ⟨zPz_blind g _ h, zPz_pre (.ref q :: av) hK hH hS⟩ rfl (by rw [List.length_map]; exact hn) hl0.1 (by simp [zv_ref]) (lv_room (by rw [z_cat]; exact hst)) hd ⟨Nat.le_trans hc hf3, Nat.le_trans hs hf4⟩) hS fun r h1 H1 locs1 hq hO1 hS1 => ?_
    rw [z_ret_list]
    exact k r h1 hq p e R s m args below meth c g Qf hF hO H1 locs1 ls hO1 hS1 hl0
  · refine z_run (va_runIN (b := za g q) (As := av.map (zv g)) (rest := st.map (zv g)) ⟨hx, hcd, hml, hown, hts⟩ (hE g) ⟨va_cnB n hts (zGi w1) hcode rfl rfl (hK.2.2.1 _ hl) (hts _ w2) hyd (z_fit hf1 hf2 hD hm), hy1, hts _ w3⟩ ⟨zPz_blind g _ h, zPz_pre (.ref q :: av) hK hH hS⟩ rfl (by rw [List.length_map]; exact hn) hl0.1 (by simp [zv_ref]) (lv_room (by rw [z_cat]; exact hst)) hd ⟨Nat.le_trans hc hf3, Nat.le_trans hs hf4⟩) hS fun r h1 H1 locs1 hq hO1 hS1 => ?_
    rw [z_ret_list]
    exact k r h1 hq p e R s m args below meth c g Qf hF hO H1 locs1 ls hO1 hS1 hl0
/-- Object's own constructor -/
theorem z_objInit {q idx : Nat} (hl : Cond.methodLink (zy (zbM B)).cls idx Lib.objectInit ∈ zT) (hi : Cond.instanceMethod Lib.objectInit ∈ zT) (hc : Cond.code Lib.objectInit ⟨#[0xb1]⟩ 1 none ∈ zT) (hd : decode (zbc B) pc = .ok (.invokespecial idx, 3)) (hst : (st.map fun v => v.category).sum ≤ 8) (hD : 1 ≤ zbD B) (k : Z B (pc + 3) lv st h ce sl) : Z B pc lv (.ref q :: st) h ce sl := by
  intro p e R s m args below meth c g Qf hF hO H locs ls hH hS hl0
  obtain ⟨hx, hcd, hml, hown, hts, -, -, -, hf1, hf2, hf3, hf4, hK, -⟩ := id hO
  refine W.objInit hx hcd hown (hts _ hl) (hts _ hi) (hts _ hc) rfl (hl0.1.trans hml.symm) rfl hd (Nat.le_trans hD hf1) ?_ (k p e R s m args below meth c g Qf hF hO H locs ls hH hS hl0)
  have h8 : 2 * (F0 m pc ls (st.map (zv g))).monitorRoom + ((st.map (zv g)).map fun v => v.category).sum ≤ 8 := lv_room (rest := st.map (zv g)) (by rw [z_cat]; exact hst)
  have h10 : 60 * 1 ≤ R.locals := Nat.le_trans (Nat.mul_le_mul_left 60 hD) hf2
  show 2 * 0 + ((st.map (zv g)).map fun v => v.category).sum + 12 ≤ R.locals
  have h11 : 2 * 0 + ((st.map (zv g)).map fun v => v.category).sum ≤ 8 := h8
  omega
end ZC
/-! answers, and the contract out of the frame -/
def zFm (Q : Option Value → zH → Prop) (mc ms : Nat) : zF := fun _ _ _ s _ args below _ _ g Qf => Qf = MQ below (zQz g Q) args s mc ms (zA g)
theorem zQz_of {g : zG} {Q : Option Value → zH → Prop} {s t : State} {args : Array Value} {h : zH} {H : Heap} {locs : List Loc} {r : Option Value} {v : Option Value} (hv : v = r.map (zv g)) (hq : Q r h) (hO : zO g s h H) (hS : va_S (zA g) s.heap H locs) (ht : t.heap = H) (hW : s.WarmedH t.vm) : zQz g Q args s (.returned v) t := by
  subst hv
  exact ⟨⟨r, h, rfl, hq, by rw [ht]; exact hO.moved hW.alike⟩, hS.F ht⟩
section ZR
variable {D mc ms : Nat} {M : zM} {Q : Option Value → zH → Prop} {pc : Nat} {lv : zL} {h : zH} {ce sl : Nat}
theorem z_iret {v : Int32} (hd : decode (zcc M) pc = .ok (.ireturn, 1)) (hr : zrt M = some .int) (hc : ce ≤ mc) (hs : sl ≤ ms) (hq : Q (some (.int v)) h) : Z (zFm Q mc ms, D, mc, ms, M) pc lv [.int v] h ce sl := by
  intro p e R s m args below meth c g Qf hF hO H locs ls hH hS hl0
  rw [show Qf = _ from hF]
  refine W.widen hc hs ?_
  have hlocks := hO.2.2.2.2.2.1
  exact W.iret hO.1 hO.2.1 (hO.2.2.2.2.2.2.1.trans hr) (fun t ht hW => zQz_of (r := some (.int v)) rfl hq hH hS ht hW) hS.2.2 hd
theorem z_zret {v : Int32} (hd : decode (zcc M) pc = .ok (.ireturn, 1)) (hr : zrt M = some .boolean) (hn : narrow .boolean (.int v) = .int v) (hc : ce ≤ mc) (hs : sl ≤ ms) (hq : Q (some (.int v)) h) : Z (zFm Q mc ms, D, mc, ms, M) pc lv [.int v] h ce sl := by
  intro p e R s m args below meth c g Qf hF hO H locs ls hH hS hl0
  rw [show Qf = _ from hF]
  refine W.widen hc hs ?_
  have hlocks := hO.2.2.2.2.2.1
  exact W.zret hO.1 hO.2.1 (hO.2.2.2.2.2.2.1.trans hr) hn (fun t ht hW => zQz_of (r := some (.int v)) rfl hq hH hS ht hW) hS.2.2 hd
theorem z_lret {v : Int64} (hd : decode (zcc M) pc = .ok (.lreturn, 1)) (hr : zrt M = some .long) (hc : ce ≤ mc) (hs : sl ≤ ms) (hq : Q (some (.long v)) h) : Z (zFm Q mc ms, D, mc, ms, M) pc lv [.long v] h ce sl := by
  intro p e R s m args below meth c g Qf hF hO H locs ls hH hS hl0
  rw [show Qf = _ from hF]
  refine W.widen hc hs ?_
  have hlocks := hO.2.2.2.2.2.1
  exact W.lret hO.1 hO.2.1 (hO.2.2.2.2.2.2.1.trans hr) (fun t ht hW => zQz_of (r := some (.long v)) rfl hq hH hS ht hW) hS.2.2 hd
theorem z_vret (hd : decode (zcc M) pc = .ok (.return_, 1)) (hr : zrt M = none) (hc : ce ≤ mc) (hs : sl ≤ ms) (hq : Q none h) : Z (zFm Q mc ms, D, mc, ms, M) pc lv [] h ce sl := by
  intro p e R s m args below meth c g Qf hF hO H locs ls hH hS hl0
  rw [show Qf = _ from hF]
  refine W.widen hc hs ?_
  have hlocks := hO.2.2.2.2.2.1
  exact W.vret hO.1 hO.2.1 (hO.2.2.2.2.2.2.1.trans hr) (fun t ht hW => zQz_of (r := none) rfl hq hH hS ht hW) hS.2.2 hd
end ZR
theorem zargs (g : zG) (vs : List Value) : ∀ i, lv_args i (vs.map (zv g)) = zloc g (lv_args i vs) := by
  induction vs with
  | nil => intro i; rfl
  | cons v vs ih =>
    intro i
    show (i, zv g v) :: lv_args (if (zv g v).category = 2 then i + 2 else i + 1) (vs.map (zv g)) = (i, zv g v) :: zloc g (lv_args _ vs)
    rw [zv_cat, ih]
theorem zlgsl (g : zG) (vs : List Value) : (lg_sl (vs.map (zv g))).length = (lg_sl vs).length := by
  induction vs with
  | nil => rfl
  | cons v vs ih =>
    simp only [lg_sl, List.map_cons, List.flatMap_cons, List.length_append, zv_cat] at ih ⊢
    rw [ih]
    split <;> rfl
theorem Ev.of {M : zM} {d mc ms : Nat} {av : List Value} {h : zH} {Q : Option Value → zH → Prop} (hy : plainName (zy M).cls = true) (hlen : (lg_sl av).length ≤ zmL M)
    (body : Z (zFm Q mc ms, d, mc, ms, M) 0 (lv_args 0 av) [] h 0 0) : Ev M d mc ms av h Q := by
  intro g
  refine Met.ofW (cc := zcc M) (maxL := zmL M) (ret := zrt M) hy rfl ?_
  intro p e s m args below meth c s₁ BL hml hv
  obtain ⟨rfl, hK, hO⟩ := hv
  have hl := lv_entry (av.map (zv g)) (n := zmL M) (by rw [zlgsl]; exact hlen)
  rw [lg_entry_eq]
  rw [zargs] at hl
  refine body p e _ s m _ below meth c g _ rfl ⟨BL.exec, BL.bytes, hml, findClass_of_methodNamed BL.named, fun w hw => atoms_spec (ws := zws M) BL.pre w (List.mem_cons_of_mem _ hw), BL.notSynchronized, BL.returns, fun hn => by rw [← hn]; exact (name_of_methodNamed BL.named BL.method).1, Nat.le_refl _, Nat.le_refl _, Nat.le_refl _, Nat.le_refl _, hK, ?_⟩ s.heap [] _ hO va_S.rf hl
  rw [hO.2.1]
  exact Nat.le_add_right _ _
/-! Math's min, max, abs of ints -/
section ZMa
variable {B : zB} {pc : Nat} {lv : zL} {st : List Value} {h : zH} {ce sl : Nat}
theorem z_mmax {idx : Nat} {x y : Int32} (hl : Cond.methodLink (zy (zbM B)).cls idx Lib.Math.max.name ∈ zT) (h1 : Cond.static Lib.Math.max.name ∈ zT) (h2 : Cond.initialized "java/lang/Math" ∈ zT) (h3 : Cond.code Lib.Math.max.name Lib.Math.max.code 2 (some .int) ∈ zT) (hd : decode (zbc B) pc = .ok (.invokestatic idx, 3)) (hst : (st.map fun v => v.category).sum ≤ 8) (hD : 1 ≤ zbD B) (hc : ce ≤ B.2.2.1) (hs : sl ≤ B.2.2.2.1) (k : Z B (pc + 3) lv (.int (if x < y then y else x) :: st) h ce sl) : Z B pc lv (.int y :: .int x :: st) h ce sl := by
  intro p e R s m args below meth c g Qf hF hO H locs ls hH hS hl0
  obtain ⟨hx, hcd, hml, hown, hts, -, -, -, hf1, hf2, hf3, hf4, hK, -⟩ := id hO
  refine va_mmax hx hcd (hml.trans hl0.1.symm) hown (hts _ hl) (hts _ h1) (hts _ h2) (hts _ h3) (Nat.le_trans hD hf1) ?_ (Nat.le_trans hc hf3) (Nat.le_trans hs hf4) hd (k p e R s m args below meth c g Qf hF hO H locs ls hH hS hl0)
  rw [z_cat]
  omega
theorem z_mmin {idx : Nat} {x y : Int32} (hl : Cond.methodLink (zy (zbM B)).cls idx Lib.Math.min.name ∈ zT) (h1 : Cond.static Lib.Math.min.name ∈ zT) (h2 : Cond.initialized "java/lang/Math" ∈ zT) (h3 : Cond.code Lib.Math.min.name Lib.Math.min.code 2 (some .int) ∈ zT) (hd : decode (zbc B) pc = .ok (.invokestatic idx, 3)) (hst : (st.map fun v => v.category).sum ≤ 8) (hD : 1 ≤ zbD B) (hc : ce ≤ B.2.2.1) (hs : sl ≤ B.2.2.2.1) (k : Z B (pc + 3) lv (.int (if y < x then y else x) :: st) h ce sl) : Z B pc lv (.int y :: .int x :: st) h ce sl := by
  intro p e R s m args below meth c g Qf hF hO H locs ls hH hS hl0
  obtain ⟨hx, hcd, hml, hown, hts, -, -, -, hf1, hf2, hf3, hf4, hK, -⟩ := id hO
  refine va_mmin hx hcd (hml.trans hl0.1.symm) hown (hts _ hl) (hts _ h1) (hts _ h2) (hts _ h3) (Nat.le_trans hD hf1) ?_ (Nat.le_trans hc hf3) (Nat.le_trans hs hf4) hd (k p e R s m args below meth c g Qf hF hO H locs ls hH hS hl0)
  rw [z_cat]
  omega
theorem z_mabs {idx : Nat} {x : Int32} (hl : Cond.methodLink (zy (zbM B)).cls idx Lib.Math.abs.name ∈ zT) (h1 : Cond.static Lib.Math.abs.name ∈ zT) (h2 : Cond.initialized "java/lang/Math" ∈ zT) (h3 : Cond.code Lib.Math.abs.name Lib.Math.abs.code 1 (some .int) ∈ zT) (hd : decode (zbc B) pc = .ok (.invokestatic idx, 3)) (hst : (st.map fun v => v.category).sum ≤ 8) (hD : 1 ≤ zbD B) (hc : ce ≤ B.2.2.1) (hs : sl ≤ B.2.2.2.1) (k : Z B (pc + 3) lv (.int (if 0 ≤ x then x else 0 - x) :: st) h ce sl) : Z B pc lv (.int x :: st) h ce sl := by
  intro p e R s m args below meth c g Qf hF hO H locs ls hH hS hl0
  obtain ⟨hx, hcd, hml, hown, hts, -, -, -, hf1, hf2, hf3, hf4, hK, -⟩ := id hO
  refine va_mabs hx hcd (hml.trans hl0.1.symm) hown (hts _ hl) (hts _ h1) (hts _ h2) (hts _ h3) (Nat.le_trans hD hf1) ?_ (Nat.le_trans hc hf3) (Nat.le_trans hs hf4) hd (k p e R s m args below meth c g Qf hF hO H locs ls hH hS hl0)
  rw [z_cat]
  omega
end ZMa
section ZFi
variable {B : zB} {pc : Nat} {lv : zL} {st : List Value} {h : zH} {ce sl : Nat}
theorem z_get {q idx ci N : Nat} {C : String} {T : u_T} {fs : List Value} {v : Value} (k : Nat) (hc : vwCl[ci]? = some (C, T, N)) (hin : ∀ w ∈ u_ws C T N, w ∈ zT) (hk : k < N) (hl : Cond.fieldLink (zy (zbM B)).cls idx (T k).1 (T k).2.1 (T k).2.2.1 ∈ zT) (hd : decode (zbc B) pc = .ok (.getfield idx, 3)) (he : h[q]? = some (.inr (ci, fs))) (hv : fs[k]? = some v) (kk : Z B (pc + 3) lv (v :: st) h ce sl) : Z B pc lv (.ref q :: st) h ce sl := by
  intro p e R s m args below meth c g Qf hF hO H locs ls hH hS hl0
  obtain ⟨hx, hcd, hml, hown, hts, -, -, -, hf1, hf2, hf3, hf4, hK, -⟩ := id hO
  exact va_get (T := T) (N := N) (v := zv g v) hx hcd hts hin hown hK.1 hH.1 q (zw_get (g := g) he) hc k hk (hts _ hl) (fun _ h9 => h9) (by rw [List.getElem?_map, hv]; rfl) hd (kk p e R s m args below meth c g Qf hF hO H locs ls hH hS hl0)
theorem z_getN {q idx ci N : Nat} {C host : String} {T : u_T} {fs : List Value} {v : Value} (k : Nat) (hc : vwCl[ci]? = some (C, T, N)) (hin : ∀ w ∈ u_ws C T N, w ∈ zT) (hk : k < N) (hl : Cond.fieldLinkNest (zy (zbM B)).cls idx (T k).1 (T k).2.1 (T k).2.2.1 host ∈ zNW) (hd : decode (zbc B) pc = .ok (.getfield idx, 3)) (he : h[q]? = some (.inr (ci, fs))) (hv : fs[k]? = some v) (kk : Z B (pc + 3) lv (v :: st) h ce sl) : Z B pc lv (.ref q :: st) h ce sl := by
  intro p e R s m args below meth c g Qf hF hO H locs ls hH hS hl0
  obtain ⟨hx, hcd, hml, hown, hts, -, -, -, hf1, hf2, hf3, hf4, hK, -⟩ := id hO
  exact va_getN (T := T) (N := N) (v := zv g v) hx hcd hts hin hown hK.1 hH.1 q (zw_get (g := g) he) hc k hk (va_Nw.use rfl (hK.2.2.1 _ hl)) (fun _ h9 => h9) (by rw [List.getElem?_map, hv]; rfl) hd (kk p e R s m args below meth c g Qf hF hO H locs ls hH hS hl0)
/-- a class's field types and names -/
def zty (T : u_T) (N : Nat) (ty : Nat → FieldType) : Prop := (∀ k, k < N → parseFieldDescriptor (T k).2.2.1 = some (ty k)) ∧ (∀ a, a < N → ∀ b, b < N → a ≠ b → (T a).2.1 ≠ (T b).2.1)
theorem zput_at {g : zG} {H1 : Heap} {q ci N k : Nat} {C : String} {T : u_T} {fs : List Value} {v : Value} {cell : Cell} (hc : vwCl[ci]? = some (C, T, N)) (hap : ∀ x y, x < N → y < N → x ≠ y → (g.2.1.2 ci) x ≠ (g.2.1.2 ci) y) (hk : k < N) (hlen : k < fs.length) (e1 : H1[za g q]? = some (cell.setSlot ((g.2.1.2 ci) k) (zv g v))) (q2 : cell.cls = g.2.1.1 ci) (q3 : cell.vm = .none) (q4 : ∀ j, j < N → cell.slots[(g.2.1.2 ci) j]? = some (vp_V (fs.map (zv g)) j)) : va_at g.2.1 vwCl (za g q, zc g (.inr (ci, fs.set k v))) H1 := by
  refine ⟨_, hc, t_OB.to (V := updV (vp_V (fs.map (zv g))) k (zv g v)) ⟨_, e1, q2, q3, t_set q4 hap hk (zv g v)⟩ (fun j _ => ?_)⟩
  rw [vp_updV_set (by rw [List.length_map]; exact hlen)]
  show vp_V _ j = vp_V ((fs.set k v).map (zv g)) j
  rw [List.map_set]
theorem z_put {q idx ci N : Nat} {C : String} {T : u_T} {fs : List Value} {v : Value} {tyf : Nat → FieldType} (k : Nat) (hc : vwCl[ci]? = some (C, T, N)) (hin : ∀ w ∈ u_ws C T N, w ∈ zT) (hty : zty T N tyf) (hk : k < N) (hl : Cond.fieldLink (zy (zbM B)).cls idx (T k).1 (T k).2.1 (T k).2.2.1 ∈ zT) (hfin : (T k).2.2.2 = false) (hn : ∀ g, narrow (tyf k) (zv g v) = zv g v) (hfit : ∀ g, fits (tyf k) (zv g v) = true) (hlen : k < fs.length) (hd : decode (zbc B) pc = .ok (.putfield idx, 3)) (he : h[q]? = some (.inr (ci, fs))) (kk : Z B (pc + 3) lv st (h.set q (.inr (ci, fs.set k v))) ce sl) : Z B pc lv (v :: .ref q :: st) h ce sl := by
  intro p e R s m args below meth c g Qf hF hO H locs ls hH hS hl0
  obtain ⟨hx, hcd, hml, hown, hts, -, -, -, hf1, hf2, hf3, hf4, hK, -⟩ := id hO
  have hap := va_apart (own := (zy (zbM B)).cls) hts hin tyf hty.1 hty.2 hK.1 hc
  obtain ⟨r, h1, cell, q1, q2, q3, q4⟩ := hH.1 q _ (zw_get (g := g) he)
  have hr : r = (C, T, N) := Option.some.inj (h1.symm.trans hc)
  subst hr
  obtain ⟨hSl, hfc, kC, hkC, hkind⟩ := hK.1.1 ci _ hc
  obtain ⟨cf, kf, fi, f, hi, hsl⟩ := hSl k hk
  have hlay := hts _ (hin _ (u_in_lay hk))
  unfold u_lay at hlay
  rw [if_neg (by rw [hfin]; decide)] at hlay
  have hst := (u_facts hfc hkC (u_lays hts hin hk) hi).1
  have h6 := u_store hfc hkC hkind hlay hi (hty.1 k hk) (hn g) (hfit g)
  refine W.putK hx hcd (f := f) ⟨hown, hts _ hl, ⟨_, _, _, hi⟩, hst⟩ (by rw [q2]; exact h6) q1 q3 (by rw [hsl]; exact k2_hasslot (q4 k hk)) rfl rfl hd fun H' e1 e2 e3 => ?_
  rw [hsl] at e1 ⊢
  exact kk p e R s m args below meth c g Qf hF hO H' _ ls (hH.set he (fun ty x0 h0 => by cases h0) e2 (zput_at hc hap hk hlen e1 q2 q3 q4) e3) (hS.put e2 e3 (zA_at hH he)) hl0
theorem z_putN {q idx ci N : Nat} {C host : String} {T : u_T} {fs : List Value} {v : Value} {tyf : Nat → FieldType} (k : Nat) (hc : vwCl[ci]? = some (C, T, N)) (hin : ∀ w ∈ u_ws C T N, w ∈ zT) (hty : zty T N tyf) (hk : k < N) (hl : Cond.fieldLinkNest (zy (zbM B)).cls idx (T k).1 (T k).2.1 (T k).2.2.1 host ∈ zNW) (hfin : (T k).2.2.2 = false) (hn : ∀ g, narrow (tyf k) (zv g v) = zv g v) (hfit : ∀ g, fits (tyf k) (zv g v) = true) (hlen : k < fs.length) (hd : decode (zbc B) pc = .ok (.putfield idx, 3)) (he : h[q]? = some (.inr (ci, fs))) (kk : Z B (pc + 3) lv st (h.set q (.inr (ci, fs.set k v))) ce sl) : Z B pc lv (v :: .ref q :: st) h ce sl := by
  intro p e R s m args below meth c g Qf hF hO H locs ls hH hS hl0
  obtain ⟨hx, hcd, hml, hown, hts, -, -, -, hf1, hf2, hf3, hf4, hK, -⟩ := id hO
  have hap := va_apart (own := (zy (zbM B)).cls) hts hin tyf hty.1 hty.2 hK.1 hc
  obtain ⟨r, h1, cell, q1, q2, q3, q4⟩ := hH.1 q _ (zw_get (g := g) he)
  have hr : r = (C, T, N) := Option.some.inj (h1.symm.trans hc)
  subst hr
  obtain ⟨hSl, hfc, kC, hkC, hkind⟩ := hK.1.1 ci _ hc
  obtain ⟨cf, kf, fi, f, hi, hsl⟩ := hSl k hk
  have hlay := hts _ (hin _ (u_in_lay hk))
  unfold u_lay at hlay
  rw [if_neg (by rw [hfin]; decide)] at hlay
  have hst := (u_facts hfc hkC (u_lays hts hin hk) hi).1
  have h6 := u_store hfc hkC hkind hlay hi (hty.1 k hk) (hn g) (hfit g)
  refine va_WputK hx hcd (f := f) hown (va_Nw.use rfl (hK.2.2.1 _ hl)) hi hst (by rw [q2]; exact h6) q1 q3 (by rw [hsl]; exact k2_hasslot (q4 k hk)) rfl rfl hd fun H' e1 e2 e3 => ?_
  rw [hsl] at e1 ⊢
  exact kk p e R s m args below meth c g Qf hF hO H' _ ls (hH.set he (fun ty x0 h0 => by cases h0) e2 (zput_at hc hap hk hlen e1 q2 q3 q4) e3) (hS.put e2 e3 (zA_at hH he)) hl0
/-- a final field, in its class's constructor -/
theorem z_putF {q idx ci N : Nat} {C : String} {T : u_T} {fs : List Value} {v : Value} {tyf : Nat → FieldType} (k : Nat) (hc : vwCl[ci]? = some (C, T, N)) (hin : ∀ w ∈ u_ws C T N, w ∈ zT) (hty : zty T N tyf) (hk : k < N) (hl : Cond.fieldLink (zy (zbM B)).cls idx (T k).1 (T k).2.1 (T k).2.2.1 ∈ zT) (hfin : (T k).2.2.2 = true) (hinit : (zy (zbM B)).name = "<init>") (hdecl : (T k).1 = (zy (zbM B)).cls) (hn : ∀ g, narrow (tyf k) (zv g v) = zv g v) (hfit : ∀ g, fits (tyf k) (zv g v) = true) (hlen : k < fs.length) (hd : decode (zbc B) pc = .ok (.putfield idx, 3)) (he : h[q]? = some (.inr (ci, fs))) (kk : Z B (pc + 3) lv st (h.set q (.inr (ci, fs.set k v))) ce sl) : Z B pc lv (v :: .ref q :: st) h ce sl := by
  intro p e R s m args below meth c g Qf hF hO H locs ls hH hS hl0
  obtain ⟨hx, hcd, hml, hown, hts, -, -, hin2, hf1, hf2, hf3, hf4, hK, -⟩ := id hO
  have hap := va_apart (own := (zy (zbM B)).cls) hts hin tyf hty.1 hty.2 hK.1 hc
  obtain ⟨r, h1, cell, q1, q2, q3, q4⟩ := hH.1 q _ (zw_get (g := g) he)
  have hr : r = (C, T, N) := Option.some.inj (h1.symm.trans hc)
  subst hr
  obtain ⟨hSl, hfc, kC, hkC, hkind⟩ := hK.1.1 ci _ hc
  obtain ⟨cf, kf, fi, f, hi, hsl⟩ := hSl k hk
  have hlay := hts _ (hin _ (u_in_lay hk))
  unfold u_lay at hlay
  rw [if_pos hfin] at hlay
  have hst := (u_facts hfc hkC (u_lays hts hin hk) hi).1
  have hcf : m.cls = cf := by
    obtain ⟨_, _, c', _, _, _, -, -, hf', -, -, -, hown2, -⟩ := Cond.laysFinal_spec hlay
    have e1 : c' = cf := by have := hi.symm.trans hf'; simp at this; exact this.1.symm
    rw [hdecl] at hown2
    rw [← e1]; exact Option.some.inj (hown.symm.trans hown2)
  have h6 := u_fits hfc hkC hkind (Or.inr hlay) hi (hty.1 k hk) (hn g) (hfit g)
  refine W.putFinK hx hcd hown (hts _ hl) hi hst hcf (hin2 hinit) (by rw [q2]; exact h6) q1 q3 (by rw [hsl]; exact k2_hasslot (q4 k hk)) rfl rfl hd fun H' e1 e2 e3 => ?_
  rw [hsl] at e1 ⊢
  exact kk p e R s m args below meth c g Qf hF hO H' _ ls (hH.set he (fun ty x0 h0 => by cases h0) e2 (zput_at hc hap hk hlen e1 q2 q3 q4) e3) (hS.put e2 e3 (zA_at hH he)) hl0
/-- a new cell behind the others -/
theorem zO.push {g : zG} {s : State} {h : zH} {H H1 : Heap} {e1 : zE} (hO : zO g s h H) (hl : h.length < zE0) (hz : H1.size = H.size + 1) (ha : va_at g.2.1 vwCl (H.size, zc g e1) H1) (oq : ∀ a : Nat, a < H.size → H1[a]? = H[a]?) (ht : ∀ ty x, e1 = .inl (ty, x) → ArrOfT s (zkap g ty) ty ∧ va_RA s (zkap g ty) ty) : zO g s (h ++ [e1]) H1 ∧ za g h.length = H.size := by
  obtain ⟨h1, h2, h3, h4⟩ := hO
  have hza : za g h.length = H.size := by rw [za_lt hl, h2]
  refine ⟨⟨?_, by rw [hz, h2, List.length_append]; rfl, by rw [List.length_append]; exact hl, fun k ty x hk => ?_⟩, hza⟩
  · rw [← zw_push]
    refine (h1.kept fun k q hk => oq q.1 (h1 k q hk).lt).app fun k q hk => ?_
    have hz : k < 1 := (List.getElem?_eq_some_iff.mp hk).1
    rw [show k = 0 by omega] at hk
    cases hk
    rw [hza]
    exact ha
  · by_cases hkl : k < h.length
    · rw [List.getElem?_append_left hkl] at hk
      exact h4 k ty x hk
    · rw [List.getElem?_append_right (by omega)] at hk
      have hz : k - h.length < 1 := (List.getElem?_eq_some_iff.mp hk).1
      rw [show k - h.length = 0 by omega] at hk
      exact ht ty x (Option.some.inj hk)
theorem z_new {idx ci N : Nat} {C : String} {T : u_T} {fs : List Value} {tyf : Nat → FieldType} (hc : vwCl[ci]? = some (C, T, N)) (hin : ∀ w ∈ u_ws C T N, w ∈ zT) (hty : zty T N tyf) (hcl : Cond.classLink (zy (zbM B)).cls idx C ∈ zT) (hinst : Cond.instantiable C N ∈ zT) (hini : Cond.initialized C ∈ zT) (hfs : ∀ j, j < N → defaultValue (tyf j) = vp_V fs j) (hnr : ∀ g, fs.map (zv g) = fs) (hl : h.length < zE0) (hce : ce + 1 ≤ B.2.2.1) (hsl : sl + N ≤ B.2.2.2.1) (hd : decode (zbc B) pc = .ok (.new idx, 3)) (kk : Z B (pc + 3) lv (.ref h.length :: st) (h ++ [.inr (ci, fs)]) (ce + 1) (sl + N)) : Z B pc lv st h ce sl := by
  intro p e R s m args below meth c g Qf hF hO H locs ls hH hS hl0
  obtain ⟨hx, hcd, hml, hown, hts, -, -, -, hf1, hf2, hf3, hf4, hK, -⟩ := id hO
  have hKn := hK.1.1 ci _ hc
  refine W.newcK hx hcd hown (hts _ hcl) (hts _ hinst) (hts _ hini) rfl hd (Nat.le_trans hce hf3) (Nat.le_trans hsl hf4) hKn.2.1 rfl fun H1 kC hkC e1 z1 o1 => ?_
  obtain ⟨hO1, hza⟩ := hH.push (e1 := .inr (ci, fs)) hl z1 ⟨_, hc, by
    show t_OB H.size _ N _ H1 (vp_V (fs.map (zv g)))
    rw [hnr g]
    exact (u_born tyf hts hin hKn hkC e1 hty.1).to hfs⟩ o1 (fun ty x h0 => by cases h0)
  have hS1 : va_S (zA g) s.heap H1 locs := ⟨Nat.le_trans hS.1 (by omega), fun x h1 h2 => (o1 x (Nat.lt_of_lt_of_le h1 hS.1)).trans (hS.2.1 x h1 h2), hS.2.2⟩
  have key := kk p e R s m args below meth c g Qf hF hO H1 locs ls hO1 hS1 hl0
  rw [List.map_cons, zv_ref, hza] at key
  exact key
theorem z_newa {atype : ArrayType} {n : Int32} {N : Nat} {x : vp_A} (hcl : Cond.arrayClass (newarray.typeOf atype) ∈ zT) (hx : ∀ cA : ClassId, vp_cell cA (N, x.2) = arrV cA N (fun _ => defaultValue (newarray.typeOf atype))) (hra : ∀ (s : State) (cA : ClassId), s.vm.findClass ("[" ++ (newarray.typeOf atype).toString) = some cA → va_RA s cA (newarray.typeOf atype)) (hn : ¬ n < 0) (hN : n.toNatClampNeg = N) (hby : N * componentBytes (newarray.typeOf atype) ≤ 536870912) (hl : h.length < zE0) (hce : ce + 1 ≤ B.2.2.1) (hsl : sl + N ≤ B.2.2.2.1) (hd : decode (zbc B) pc = .ok (.newarray atype, 2)) (kk : Z B (pc + 2) lv (.ref h.length :: st) (h ++ [.inl (newarray.typeOf atype, N, x.2)]) (ce + 1) (sl + N)) : Z B pc lv (.int n :: st) h ce sl := by
  intro p e R s m args below meth c g Qf hF hO H locs ls hH hS hl0
  obtain ⟨hx0, hcd, hml, hown, hts, -, -, -, hf1, hf2, hf3, hf4, hK, -⟩ := id hO
  refine va_newaK hx0 hcd (hts _ hcl) rfl hd rfl hn hN hby (Nat.le_trans hce hf3) (Nat.le_trans hsl hf4) rfl fun H1 cA e1 z1 o1 hAr hNm => ?_
  have hcA := hK.2.1 _ _ hNm
  subst hcA
  obtain ⟨hO1, hza⟩ := hH.push (e1 := .inl (newarray.typeOf atype, N, x.2)) hl z1 (by
    show H1[H.size]? = some (vp_cell _ (N, x.2))
    rw [hx]
    exact e1) o1 (fun ty x1 h0 => by cases h0; exact ⟨hAr, hra s _ hNm⟩)
  have hS1 : va_S (zA g) s.heap H1 locs := ⟨Nat.le_trans hS.1 (by omega), fun x h1 h2 => (o1 x (Nat.lt_of_lt_of_le h1 hS.1)).trans (hS.2.1 x h1 h2), hS.2.2⟩
  have key := kk p e R s m args below meth c g Qf hF hO H1 locs ls hO1 hS1 hl0
  rw [List.map_cons, zv_ref, hza] at key
  exact key
end ZFi
section ZFb
variable {B : zB} {pc : Nat} {lv : zL} {st : List Value} {h : zH} {ce sl : Nat}
/-- the field at the entry idx of own's pool: slot k of class ci, its type, whether it is final -/
def zFl (own : String) (idx ci k : Nat) (ty : FieldType) (fin : Bool) : Prop := ∃ (C : String) (T : u_T) (N : Nat) (tyf : Nat → FieldType), vwCl[ci]? = some (C, T, N) ∧ (∀ w ∈ u_ws C T N, w ∈ zT) ∧ zty T N tyf ∧ k < N ∧ tyf k = ty ∧ (T k).2.2.2 = fin ∧ (T k).1 = C ∧ (Cond.fieldLink own idx (T k).1 (T k).2.1 (T k).2.2.1 ∈ zT ∨ ∃ host, Cond.fieldLinkNest own idx (T k).1 (T k).2.1 (T k).2.2.1 host ∈ zNW)
theorem z_getf {q idx ci k : Nat} {ty : FieldType} {fin : Bool} {fs : List Value} {v : Value} (hf : zFl (zy (zbM B)).cls idx ci k ty fin) (hd : decode (zbc B) pc = .ok (.getfield idx, 3)) (he : h[q]? = some (.inr (ci, fs))) (hv : fs[k]? = some v) (kk : Z B (pc + 3) lv (v :: st) h ce sl) : Z B pc lv (.ref q :: st) h ce sl := by
  obtain ⟨C, T, N, tyf, hc, hin, hty, hk, -, -, -, hl | ⟨host, hl⟩⟩ := hf
  · exact z_get k hc hin hk hl hd he hv kk
  · exact z_getN k hc hin hk hl hd he hv kk
theorem z_putf {q idx ci k : Nat} {ty : FieldType} {fs : List Value} {v : Value} (hf : zFl (zy (zbM B)).cls idx ci k ty false) (hn : ∀ g, narrow ty (zv g v) = zv g v) (hfit : ∀ g, fits ty (zv g v) = true) (hlen : k < fs.length) (hd : decode (zbc B) pc = .ok (.putfield idx, 3)) (he : h[q]? = some (.inr (ci, fs))) (kk : Z B (pc + 3) lv st (h.set q (.inr (ci, fs.set k v))) ce sl) : Z B pc lv (v :: .ref q :: st) h ce sl := by
  obtain ⟨C, T, N, tyf, hc, hin, hty, hk, rfl, hfin, -, hl | ⟨host, hl⟩⟩ := hf
  · exact z_put k hc hin hty hk hl hfin hn hfit hlen hd he kk
  · exact z_putN k hc hin hty hk hl hfin hn hfit hlen hd he kk
theorem z_putff {q idx ci k : Nat} {ty : FieldType} {fs : List Value} {v : Value} (hf : zFl (zy (zbM B)).cls idx ci k ty true) (hcl : ∀ C T N, vwCl[ci]? = some (C, T, N) → C = (zy (zbM B)).cls) (hnest : ∀ C T N, vwCl[ci]? = some (C, T, N) → Cond.fieldLink (zy (zbM B)).cls idx (T k).1 (T k).2.1 (T k).2.2.1 ∈ zT) (hinit : (zy (zbM B)).name = "<init>") (hn : ∀ g, narrow ty (zv g v) = zv g v) (hfit : ∀ g, fits ty (zv g v) = true) (hlen : k < fs.length) (hd : decode (zbc B) pc = .ok (.putfield idx, 3)) (he : h[q]? = some (.inr (ci, fs))) (kk : Z B (pc + 3) lv st (h.set q (.inr (ci, fs.set k v))) ce sl) : Z B pc lv (v :: .ref q :: st) h ce sl := by
  obtain ⟨C, T, N, tyf, hc, hin, hty, hk, rfl, hfin, hown, -⟩ := hf
  exact z_putF k hc hin hty hk (hnest C T N hc) hfin hinit (hown.trans (hcl C T N hc)) hn hfit hlen hd he kk
/-- a class of which new objects are made, from own's pool -/
def zNw (own : String) (idx ci N : Nat) (fs : List Value) : Prop := ∃ (C : String) (T : u_T) (tyf : Nat → FieldType), vwCl[ci]? = some (C, T, N) ∧ (∀ w ∈ u_ws C T N, w ∈ zT) ∧ zty T N tyf ∧ Cond.classLink own idx C ∈ zT ∧ Cond.instantiable C N ∈ zT ∧ Cond.initialized C ∈ zT ∧ (∀ j, j < N → defaultValue (tyf j) = vp_V fs j) ∧ ∀ g, fs.map (zv g) = fs
theorem z_newo {idx ci N : Nat} {fs : List Value} (hw : zNw (zy (zbM B)).cls idx ci N fs) (hl : h.length < zE0) (hce : ce + 1 ≤ B.2.2.1) (hsl : sl + N ≤ B.2.2.2.1) (hd : decode (zbc B) pc = .ok (.new idx, 3)) (kk : Z B (pc + 3) lv (.ref h.length :: st) (h ++ [.inr (ci, fs)]) (ce + 1) (sl + N)) : Z B pc lv st h ce sl := by
  obtain ⟨C, T, tyf, hc, hin, hty, h1, h2, h3, h4, h5⟩ := hw
  exact z_new hc hin hty h1 h2 h3 h4 h5 hl hce hsl hd kk
end ZFb
