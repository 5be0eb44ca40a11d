/-! THE RUN'S MEMORY: the cells' kinds never change; what they hold is m : cell → place → Int32 -/
abbrev zSh : Type := (FieldType × Nat) ⊕ (Nat × List (Option Nat))
abbrev zmem : Type := Nat → Nat → Int32
def zarr (n : Nat) : zSh := .inl (.int, n)
def zpar (p : Nat) : List zSh := [.inr (3, [none, none, none, none, some (p + 1), some (p + 2), some (p + 3), some (p + 4), some (p + 5), some (p + 6), some (p + 7), some (p + 8), some (p + 9), none, none, none]), zarr 8, zarr 7, zarr 7, zarr 7, zarr 7, zarr 7, zarr 7, zarr 7, zarr 7]
def zshC : List zSh := [.inr (6, [some 1, some 3, some 5, some 7, some 17, some 27, some 37, none, none, some 47, some 50, some 55]), .inr (5, [some 2, none, none, none, none]), .inl (.byte, 400), .inr (1, [some 4, none]), zarr 4, .inr (1, [some 6, none]), zarr 4] ++ (zpar 7 ++ (zpar 17 ++ (zpar 27 ++ (zpar 37 ++ [.inr (0, [some 48, some 49, none]), zarr 20, zarr 20, .inr (4, [some 51, some 52, some 53, some 54, none, none]), zarr 7, zarr 7, zarr 7, zarr 7, .inr (2, [some 56]), zarr 128]))))
def zshR : List zSh := [.inr (7, [some 58, some 59, none, none, some 60, some 61, some 62, some 63, some 64, some 65, none, some 66, none, none, none, none, none, none, none, none, none, some 67, some 68, some 69, some 70, none, some 71, some 72, some 73, some 74, none]), zarr 400, .inl (.boolean, 2), zarr 16, zarr 16, zarr 16, zarr 16, zarr 4, zarr 8, zarr 400, zarr 8, zarr 8, zarr 8, zarr 8, zarr 1024, zarr 1024, zarr 20, zarr 20]
def zshape : List zSh := zshC ++ zshR
def zfs (m : zmem) (k : Nat) : Nat → List (Option Nat) → List Value
  | _, [] => []
  | j, some r :: t => .ref r :: zfs m k (j + 1) t
  | j, none :: t => .int (m k j) :: zfs m k (j + 1) t
def zcell (m : zmem) (k : Nat) : zSh → zE
  | .inl a => .inl (a.1, a.2, .inl (m k))
  | .inr o => .inr (o.1, zfs m k 0 o.2)
def hp (m : zmem) : zH := zshape.mapIdx (fun k s => zcell m k s)
/-- one place anew -/
def mset (m : zmem) (k j : Nat) (v : Int32) : zmem := fun a b => if a = k ∧ b = j then v else m a b
theorem mset_eq (m : zmem) (k j : Nat) (v : Int32) : mset m k j v k j = v := by simp [mset]
theorem mset_ne {m : zmem} {k j a b : Nat} (v : Int32) (h : ¬ (a = k ∧ b = j)) : mset m k j v a b = m a b := by simp [mset, h]
theorem mset_cell {m : zmem} {k j a : Nat} (v : Int32) (h : a ≠ k) : mset m k j v a = m a := by
  funext b
  exact mset_ne v (fun q => h q.1)
theorem mset_row (m : zmem) (k j : Nat) (v : Int32) : mset m k j v k = upd (m k) j v := by
  funext b
  simp [mset, upd]
theorem zfs_get {m : zmem} {k : Nat} : ∀ (t : List (Option Nat)) (j i : Nat) (o : Option Nat), t[i]? = some o → (zfs m k j t)[i]? = some (match o with | some r => .ref r | none => .int (m k (j + i))) := by
  intro t
  induction t with
  | nil => intro j i o h; simp at h
  | cons a t ih =>
    intro j i o h
    cases i with
    | zero =>
      simp at h
      subst h
      cases a <;> rfl
    | succ i =>
      simp at h
      have h2 := ih (j + 1) i o h
      rw [show j + 1 + i = j + (i + 1) by omega] at h2
      cases a <;> simpa [zfs] using h2
theorem zfs_len {m : zmem} {k : Nat} : ∀ (t : List (Option Nat)) (j : Nat), (zfs m k j t).length = t.length := by
  intro t
  induction t with
  | nil => intro j; rfl
  | cons a t ih => intro j; cases a <;> simp [zfs, ih]
theorem zfs_eq {m m' : zmem} {k : Nat} : ∀ (t : List (Option Nat)) (j : Nat), (∀ i, j ≤ i → m k i = m' k i) → zfs m k j t = zfs m' k j t := by
  intro t
  induction t with
  | nil => intro j _; rfl
  | cons a t ih =>
    intro j h
    have h2 := ih (j + 1) (fun i hi => h i (by omega))
    cases a with
    | none => simp only [zfs, h2, h j (Nat.le_refl j)]
    | some r => simp only [zfs, h2]
theorem zfs_set {m : zmem} {k : Nat} {v : Int32} : ∀ (t : List (Option Nat)) (j i : Nat), t[i]? = some none → (zfs m k j t).set i (.int v) = zfs (mset m k (j + i) v) k j t := by
  intro t
  induction t with
  | nil => intro j i h; simp at h
  | cons a t ih =>
    intro j i h
    cases i with
    | zero =>
      simp at h
      subst h
      simp only [zfs, List.set_cons_zero, Nat.add_zero, mset_eq]
      congr 1
      exact zfs_eq t (j + 1) (fun i hi => (mset_ne v (fun q => by have := q.2; omega)).symm)
    | succ i =>
      simp at h
      have h2 := ih (j + 1) i h
      rw [show j + 1 + i = j + (i + 1) by omega] at h2
      cases a with
      | none => simp only [zfs, List.set_cons_succ, h2, mset_ne v (show ¬ (k = k ∧ j = j + (i + 1)) from fun q => by have := q.2; omega)]
      | some r => simp only [zfs, List.set_cons_succ, h2]
theorem hp_get {m : zmem} {k : Nat} {s : zSh} (h : zshape[k]? = some s) : (hp m)[k]? = some (zcell m k s) := by
  simp [hp, List.getElem?_mapIdx, h]
theorem hp_len (m : zmem) : (hp m).length = 75 := by
  simp only [hp, List.length_mapIdx]
  rfl
theorem zcell_eq {m m' : zmem} {k : Nat} (s : zSh) (h : m k = m' k) : zcell m k s = zcell m' k s := by
  cases s with
  | inl a => simp only [zcell, h]
  | inr o =>
    simp only [zcell]
    rw [zfs_eq o.2 0 (fun i _ => by rw [h])]
theorem hp_set {m : zmem} {q j : Nat} {v : Int32} {s : zSh} {e : zE} (h : zshape[q]? = some s) (he : e = zcell (mset m q j v) q s) : (hp m).set q e = hp (mset m q j v) := by
  subst he
  apply List.ext_getElem?
  intro i
  by_cases hi : q = i
  · subst hi
    rw [List.getElem?_set_self (by have := (List.getElem?_eq_some_iff.mp h).1; simpa [hp] using this), hp_get h]
  · rw [List.getElem?_set_ne hi]
    simp only [hp, List.getElem?_mapIdx]
    cases hs : zshape[i]? with
    | none => rfl
    | some s2 => simp only [Option.map_some]; rw [zcell_eq s2 (m' := mset m q j v) (mset_cell v (Ne.symm hi)).symm]
/-- contracts of methods that make no cells: an int's, none's, a long's answer -/
def Qi (r : Int32) (m : zmem) : Option Value → zH → Prop := fun o h => o = some (.int r) ∧ h = hp m
def Q0 (m : zmem) : Option Value → zH → Prop := fun o h => o = none ∧ h = hp m
def Ql (r : Int64) (m : zmem) : Option Value → zH → Prop := fun o h => o = some (.long r) ∧ h = hp m
def Ei (M : zM) (d : Nat) (av : List Value) (m : zmem) (r : Int32) (m1 : zmem) : Prop := Ev M d 0 0 av (hp m) (Qi r m1)
def E0 (M : zM) (d : Nat) (av : List Value) (m m1 : zmem) : Prop := Ev M d 0 0 av (hp m) (Q0 m1)
def El (M : zM) (d : Nat) (av : List Value) (m : zmem) (r : Int64) (m1 : zmem) : Prop := Ev M d 0 0 av (hp m) (Ql r m1)
abbrev zMB (Q : Option Value → zH → Prop) (D : Nat) (M : zM) : zB := (zFm Q 0 0, D, 0, 0, M)
theorem Ei.of {M : zM} {d : Nat} {av : List Value} {m m1 : zmem} {r : Int32} (hy : plainName (zy M).cls = true) (hlen : (lg_sl av).length ≤ zmL M) (body : Z (zMB (Qi r m1) d M) 0 (lv_args 0 av) [] (hp m) 0 0) : Ei M d av m r m1 := Ev.of hy hlen body
theorem E0.of {M : zM} {d : Nat} {av : List Value} {m m1 : zmem} (hy : plainName (zy M).cls = true) (hlen : (lg_sl av).length ≤ zmL M) (body : Z (zMB (Q0 m1) d M) 0 (lv_args 0 av) [] (hp m) 0 0) : E0 M d av m m1 := Ev.of hy hlen body
theorem El.of {M : zM} {d : Nat} {av : List Value} {m m1 : zmem} {r : Int64} (hy : plainName (zy M).cls = true) (hlen : (lg_sl av).length ≤ zmL M) (body : Z (zMB (Ql r m1) d M) 0 (lv_args 0 av) [] (hp m) 0 0) : El M d av m r m1 := Ev.of hy hlen body
theorem yki {B : zB} {pc : Nat} {lv : zL} {st : List Value} {ce sl : Nat} {r : Int32} {m1 : zmem} {o : Option Value} {h1 : zH} (hq : Qi r m1 o h1) (k : Z B pc lv (.int r :: st) (hp m1) ce sl) : Z B pc lv (o.toList ++ st) h1 ce sl := by
  have e1 : o = some (.int r) := hq.1
  have e2 : h1 = hp m1 := hq.2
  rw [e1, e2]
  exact k
theorem ykl {B : zB} {pc : Nat} {lv : zL} {st : List Value} {ce sl : Nat} {r : Int64} {m1 : zmem} {o : Option Value} {h1 : zH} (hq : Ql r m1 o h1) (k : Z B pc lv (.long r :: st) (hp m1) ce sl) : Z B pc lv (o.toList ++ st) h1 ce sl := by
  have e1 : o = some (.long r) := hq.1
  have e2 : h1 = hp m1 := hq.2
  rw [e1, e2]
  exact k
theorem yk0 {B : zB} {pc : Nat} {lv : zL} {st : List Value} {ce sl : Nat} {m1 : zmem} {o : Option Value} {h1 : zH} (hq : Q0 m1 o h1) (k : Z B pc lv st (hp m1) ce sl) : Z B pc lv (o.toList ++ st) h1 ce sl := by
  have e1 : o = none := hq.1
  have e2 : h1 = hp m1 := hq.2
  rw [e1, e2]
  exact k
section ZY
variable {B : zB} {pc : Nat} {lv : zL} {st : List Value} {m : zmem} {ce sl : Nat}
theorem y_getI {q idx ci k : Nat} {ty : FieldType} {fin : Bool} {t : List (Option Nat)} (hf : zFl (zy (zbM B)).cls idx ci k ty fin) (hd : decode (zbc B) pc = .ok (.getfield idx, 3)) (hs : zshape[q]? = some (.inr (ci, t))) (ht : t[k]? = some none) (kk : Z B (pc + 3) lv (.int (m q k) :: st) (hp m) ce sl) : Z B pc lv (.ref q :: st) (hp m) ce sl :=
  z_getf hf hd (hp_get hs) (by have h := zfs_get (m := m) (k := q) t 0 k none ht; rw [Nat.zero_add] at h; exact h) kk
theorem y_getR {q idx ci k r : Nat} {ty : FieldType} {fin : Bool} {t : List (Option Nat)} (hf : zFl (zy (zbM B)).cls idx ci k ty fin) (hd : decode (zbc B) pc = .ok (.getfield idx, 3)) (hs : zshape[q]? = some (.inr (ci, t))) (ht : t[k]? = some (some r)) (kk : Z B (pc + 3) lv (.ref r :: st) (hp m) ce sl) : Z B pc lv (.ref q :: st) (hp m) ce sl :=
  z_getf hf hd (hp_get hs) (zfs_get (m := m) (k := q) t 0 k (some r) ht) kk
theorem y_putI {q idx ci k : Nat} {t : List (Option Nat)} {v : Int32} (hf : zFl (zy (zbM B)).cls idx ci k .int false) (hd : decode (zbc B) pc = .ok (.putfield idx, 3)) (hs : zshape[q]? = some (.inr (ci, t))) (ht : t[k]? = some none) (kk : Z B (pc + 3) lv st (hp (mset m q k v)) ce sl) : Z B pc lv (.int v :: .ref q :: st) (hp m) ce sl := by
  refine z_putf hf (fun _ => rfl) (fun _ => rfl) (by rw [zfs_len]; exact (List.getElem?_eq_some_iff.mp ht).1) hd (hp_get hs) ?_
  rw [hp_set (v := v) (j := k) hs (by simp only [zcell]; rw [zfs_set t 0 k ht, Nat.zero_add])]
  exact kk
theorem y_putZ {q idx ci k : Nat} {t : List (Option Nat)} {v : Int32} (hv : v = 0 ∨ v = 1) (hf : zFl (zy (zbM B)).cls idx ci k .boolean false) (hd : decode (zbc B) pc = .ok (.putfield idx, 3)) (hs : zshape[q]? = some (.inr (ci, t))) (ht : t[k]? = some none) (kk : Z B (pc + 3) lv st (hp (mset m q k v)) ce sl) : Z B pc lv (.int v :: .ref q :: st) (hp m) ce sl := by
  refine z_putf hf (fun _ => by rcases hv with rfl | rfl <;> rfl) (fun _ => by rcases hv with rfl | rfl <;> rfl) (by rw [zfs_len]; exact (List.getElem?_eq_some_iff.mp ht).1) hd (hp_get hs) ?_
  rw [hp_set (v := v) (j := k) hs (by simp only [zcell]; rw [zfs_set t 0 k ht, Nat.zero_add])]
  exact kk
theorem y_iald {q n : Nat} {i : Int32} (hd : decode (zbc B) pc = .ok (.iaload, 1)) (hs : zshape[q]? = some (.inl (.int, n))) (hin : vp_in i n) (kk : Z B (pc + 1) lv (.int (m q i.toNatClampNeg) :: st) (hp m) ce sl) : Z B pc lv (.int i :: .ref q :: st) (hp m) ce sl := z_iald hd (hp_get hs) hin kk
theorem y_bald {q n : Nat} {i : Int32} (hd : decode (zbc B) pc = .ok (.baload, 1)) (hs : zshape[q]? = some (.inl (.byte, n))) (hin : vp_in i n) (kk : Z B (pc + 1) lv (.int (m q i.toNatClampNeg) :: st) (hp m) ce sl) : Z B pc lv (.int i :: .ref q :: st) (hp m) ce sl := z_bald hd (hp_get hs) hin kk
theorem y_zald {q n : Nat} {i : Int32} (hd : decode (zbc B) pc = .ok (.baload, 1)) (hs : zshape[q]? = some (.inl (.boolean, n))) (hin : vp_in i n) (kk : Z B (pc + 1) lv (.int (m q i.toNatClampNeg) :: st) (hp m) ce sl) : Z B pc lv (.int i :: .ref q :: st) (hp m) ce sl := z_zald hd (hp_get hs) hin kk
theorem y_iast {q n : Nat} {i x : Int32} (hd : decode (zbc B) pc = .ok (.iastore, 1)) (hs : zshape[q]? = some (.inl (.int, n))) (hin : vp_in i n) (kk : Z B (pc + 1) lv st (hp (mset m q i.toNatClampNeg x)) ce sl) : Z B pc lv (.int x :: .int i :: .ref q :: st) (hp m) ce sl := by
  refine z_iast hd (hp_get hs) hin ?_
  rw [hp_set (v := x) (j := i.toNatClampNeg) hs (by simp only [zcell]; rw [mset_row])]
  exact kk
theorem y_bast {q n : Nat} {i x : Int32} (hd : decode (zbc B) pc = .ok (.bastore, 1)) (hs : zshape[q]? = some (.inl (.byte, n))) (hin : vp_in i n) (kk : Z B (pc + 1) lv st (hp (mset m q i.toNatClampNeg (vp_nar .byte x))) ce sl) : Z B pc lv (.int x :: .int i :: .ref q :: st) (hp m) ce sl := by
  refine z_bast hd (hp_get hs) hin ?_
  rw [hp_set (v := vp_nar .byte x) (j := i.toNatClampNeg) hs (by simp only [zcell]; rw [mset_row])]
  exact kk
theorem y_zast {q n : Nat} {i x : Int32} (hd : decode (zbc B) pc = .ok (.bastore, 1)) (hs : zshape[q]? = some (.inl (.boolean, n))) (hin : vp_in i n) (kk : Z B (pc + 1) lv st (hp (mset m q i.toNatClampNeg (vp_nar .boolean x))) ce sl) : Z B pc lv (.int x :: .int i :: .ref q :: st) (hp m) ce sl := by
  refine z_zast hd (hp_get hs) hin ?_
  rw [hp_set (v := vp_nar .boolean x) (j := i.toNatClampNeg) hs (by simp only [zcell]; rw [mset_row])]
  exact kk
theorem y_alen {q n : Nat} {ty : FieldType} (v : Int32) (hd : decode (zbc B) pc = .ok (.arraylength, 1)) (hs : zshape[q]? = some (.inl (ty, n))) (hv : Int32.ofNat n = v) (kk : Z B (pc + 1) lv (.int v :: st) (hp m) ce sl) : Z B pc lv (.ref q :: st) (hp m) ce sl := z_alen v hd (hp_get hs) hv kk
theorem y_Si {Mj : zM} {d idx n : Nat} {st0 : List Value} {r : Int32} {m1 : zmem} (av : List Value) (st : List Value) (hw : zCallS (zy (zbM B)).cls idx Mj n) (hE : Ei Mj d av m r m1) (hd : decode (zbc B) pc = .ok (.invokestatic idx, 3)) (hs0 : st0 = av.reverse ++ st) (hn : av.length = n) (hst : (st.map fun v => v.category).sum ≤ 8) (hD : d + 1 ≤ zbD B) (hc : ce ≤ B.2.2.1 ∧ sl ≤ B.2.2.2.1) (k : Z B (pc + 3) lv (.int r :: st) (hp m1) ce sl) : Z B pc lv st0 (hp m) ce sl := by
  subst hs0
  exact z_callS av hw hE hd hn hst hD hc.1 hc.2 (fun o h1 hq => yki hq k)
theorem y_S0 {Mj : zM} {d idx n : Nat} {st0 : List Value} {m1 : zmem} (av : List Value) (st : List Value) (hw : zCallS (zy (zbM B)).cls idx Mj n) (hE : E0 Mj d av m m1) (hd : decode (zbc B) pc = .ok (.invokestatic idx, 3)) (hs0 : st0 = av.reverse ++ st) (hn : av.length = n) (hst : (st.map fun v => v.category).sum ≤ 8) (hD : d + 1 ≤ zbD B) (hc : ce ≤ B.2.2.1 ∧ sl ≤ B.2.2.2.1) (k : Z B (pc + 3) lv st (hp m1) ce sl) : Z B pc lv st0 (hp m) ce sl := by
  subst hs0
  exact z_callS av hw hE hd hn hst hD hc.1 hc.2 (fun o h1 hq => yk0 hq k)
theorem y_Vi {Mj : zM} {d idx n q ci N : Nat} {T : u_T} {t : List (Option Nat)} {st0 : List Value} {r : Int32} {m1 : zmem} (av : List Value) (st : List Value) (hw : zCallV (zy (zbM B)).cls idx Mj n) (hE : Ei Mj d (.ref q :: av) m r m1) (hci : vwCl[ci]? = some ((zy Mj).cls, T, N)) (hs : zshape[q]? = some (.inr (ci, t))) (hd : decode (zbc B) pc = .ok (.invokevirtual idx, 3)) (hs0 : st0 = av.reverse ++ .ref q :: st) (hn : av.length = n) (hst : (st.map fun v => v.category).sum ≤ 8) (hD : d + 1 ≤ zbD B) (hc : ce ≤ B.2.2.1 ∧ sl ≤ B.2.2.2.1) (k : Z B (pc + 3) lv (.int r :: st) (hp m1) ce sl) : Z B pc lv st0 (hp m) ce sl := by
  subst hs0
  exact z_callV av hw hE hci hd (hp_get hs) hn hst hD hc.1 hc.2 (fun o h1 hq => yki hq k)
theorem y_V0 {Mj : zM} {d idx n q ci N : Nat} {T : u_T} {t : List (Option Nat)} {st0 : List Value} {m1 : zmem} (av : List Value) (st : List Value) (hw : zCallV (zy (zbM B)).cls idx Mj n) (hE : E0 Mj d (.ref q :: av) m m1) (hci : vwCl[ci]? = some ((zy Mj).cls, T, N)) (hs : zshape[q]? = some (.inr (ci, t))) (hd : decode (zbc B) pc = .ok (.invokevirtual idx, 3)) (hs0 : st0 = av.reverse ++ .ref q :: st) (hn : av.length = n) (hst : (st.map fun v => v.category).sum ≤ 8) (hD : d + 1 ≤ zbD B) (hc : ce ≤ B.2.2.1 ∧ sl ≤ B.2.2.2.1) (k : Z B (pc + 3) lv st (hp m1) ce sl) : Z B pc lv st0 (hp m) ce sl := by
  subst hs0
  exact z_callV av hw hE hci hd (hp_get hs) hn hst hD hc.1 hc.2 (fun o h1 hq => yk0 hq k)
theorem y_Vl {Mj : zM} {d idx n q ci N : Nat} {T : u_T} {t : List (Option Nat)} {st0 : List Value} {r : Int64} {m1 : zmem} (av : List Value) (st : List Value) (hw : zCallV (zy (zbM B)).cls idx Mj n) (hE : El Mj d (.ref q :: av) m r m1) (hci : vwCl[ci]? = some ((zy Mj).cls, T, N)) (hs : zshape[q]? = some (.inr (ci, t))) (hd : decode (zbc B) pc = .ok (.invokevirtual idx, 3)) (hs0 : st0 = av.reverse ++ .ref q :: st) (hn : av.length = n) (hst : (st.map fun v => v.category).sum ≤ 8) (hD : d + 1 ≤ zbD B) (hc : ce ≤ B.2.2.1 ∧ sl ≤ B.2.2.2.1) (k : Z B (pc + 3) lv (.long r :: st) (hp m1) ce sl) : Z B pc lv st0 (hp m) ce sl := by
  subst hs0
  exact z_callV av hw hE hci hd (hp_get hs) hn hst hD hc.1 hc.2 (fun o h1 hq => ykl hq k)
theorem y_mem {m1 : zmem} (h : m = m1) (k : Z B pc lv st (hp m1) ce sl) : Z B pc lv st (hp m) ce sl := by subst h; exact k
end ZY
section ZYR
variable {M : zM} {D pc : Nat} {lv : zL} {m m1 : zmem}
theorem y_iret {v r : Int32} (hd : decode (zcc M) pc = .ok (.ireturn, 1)) (hr : zrt M = some .int) (hv : v = r) (hm : m = m1) : Z (zMB (Qi r m1) D M) pc lv [.int v] (hp m) 0 0 := by
  subst hv; subst hm
  exact z_iret hd hr (Nat.le_refl 0) (Nat.le_refl 0) ⟨rfl, rfl⟩
theorem y_zret {v r : Int32} (hd : decode (zcc M) pc = .ok (.ireturn, 1)) (hr : zrt M = some .boolean) (h01 : v = 0 ∨ v = 1) (hv : v = r) (hm : m = m1) : Z (zMB (Qi r m1) D M) pc lv [.int v] (hp m) 0 0 := by
  subst hv; subst hm
  exact z_zret hd hr (by rcases h01 with rfl | rfl <;> rfl) (Nat.le_refl 0) (Nat.le_refl 0) ⟨rfl, rfl⟩
theorem y_lret {v r : Int64} (hd : decode (zcc M) pc = .ok (.lreturn, 1)) (hr : zrt M = some .long) (hv : v = r) (hm : m = m1) : Z (zMB (Ql r m1) D M) pc lv [.long v] (hp m) 0 0 := by
  subst hv; subst hm
  exact z_lret hd hr (Nat.le_refl 0) (Nat.le_refl 0) ⟨rfl, rfl⟩
theorem y_vret (hd : decode (zcc M) pc = .ok (.return_, 1)) (hr : zrt M = none) (hm : m = m1) : Z (zMB (Q0 m1) D M) pc lv [] (hp m) 0 0 := by
  subst hm
  exact z_vret hd hr (Nat.le_refl 0) (Nat.le_refl 0) ⟨rfl, rfl⟩
end ZYR
