/-! THE START -/
theorem tb1 {i : Nat} {w : Cond} (h : tables_1_1[i]? = some w) : w ∈ lw_tbl := List.mem_append_right _ (List.mem_append_left _ (List.mem_of_getElem? h))
theorem tb2 {i : Nat} {w : Cond} (h : tables_1_2[i]? = some w) : w ∈ lw_tbl := List.mem_append_right _ (List.mem_append_right _ (List.mem_append_left _ (List.mem_of_getElem? h)))
theorem tb3 {i : Nat} {w : Cond} (h : tables_1_3[i]? = some w) : w ∈ lw_tbl := List.mem_append_right _ (List.mem_append_right _ (List.mem_append_right _ (List.mem_append_left _ (List.mem_of_getElem? h))))
theorem tb4 {i : Nat} {w : Cond} (h : tables_1_4[i]? = some w) : w ∈ lw_tbl := List.mem_append_right _ (List.mem_append_right _ (List.mem_append_right _ (List.mem_append_right _ (List.mem_append_left _ (List.mem_of_getElem? h)))))
theorem tb5 {i : Nat} {w : Cond} (h : tables_1_5[i]? = some w) : w ∈ lw_tbl := List.mem_append_right _ (List.mem_append_right _ (List.mem_append_right _ (List.mem_append_right _ (List.mem_append_right _ (List.mem_of_getElem? h)))))
theorem l_ret : ret = some FieldType.boolean := rfl
def l_tm (i : Nat) : Term := match i with
  | 0 => .string "LoftGraves$Parish" 81
  | 1 => .string "LoftGraves$Parish" 90
  | 2 => .string "LoftGraves$Parish" 95
  | 3 => .string "LoftGraves$Custom" 47
  | 4 => .string "LoftGraves$Custom" 53
  | 5 => .string "LoftGraves$Custom" 55
  | _ => .string "LoftGraves$Custom" 57
theorem l_strs {args : Array Value} {s : State} {A : Nat → Prop} (h : (Jvm.Cond.and given_1 narrow_1).before args s = true) (hA : ∀ a : Nat, a < s.heap.size → ¬ A a) : ∃ adK adV : Nat → Nat, vk_S 7 zlen zbyt adK adV A s s.heap ∧ ∀ i : Nat, i < 7 → (l_tm i).eval args s none [] s = some (.ref (adK i)) := by
  have hs := flat_of_before _ h
  refine vk_Sof ?_ ?_ ?_ ?_ ?_ ?_ ?_ hA
  · intro i hi
    match i, hi with
    | 0, _ => decide
    | 1, _ => decide
    | 2, _ => decide
    | 3, _ => decide
    | 4, _ => decide
    | 5, _ => decide
    | 6, _ => decide
    | n + 7, h => omega
  · intro i hi
    match i, hi with
    | 0, _ => exact hs _ (by decide +kernel)
    | 1, _ => exact hs _ (by decide +kernel)
    | 2, _ => exact hs _ (by decide +kernel)
    | 3, _ => exact hs _ (by decide +kernel)
    | 4, _ => exact hs _ (by decide +kernel)
    | 5, _ => exact hs _ (by decide +kernel)
    | 6, _ => exact hs _ (by decide +kernel)
    | n + 7, h => omega
  · intro i hi
    match i, hi with
    | 0, _ => exact hs _ (by decide +kernel)
    | 1, _ => exact hs _ (by decide +kernel)
    | 2, _ => exact hs _ (by decide +kernel)
    | 3, _ => exact hs _ (by decide +kernel)
    | 4, _ => exact hs _ (by decide +kernel)
    | 5, _ => exact hs _ (by decide +kernel)
    | 6, _ => exact hs _ (by decide +kernel)
    | n + 7, h => omega
  · intro i hi
    match i, hi with
    | 0, _ => exact hs _ (by decide +kernel)
    | 1, _ => exact hs _ (by decide +kernel)
    | 2, _ => exact hs _ (by decide +kernel)
    | 3, _ => exact hs _ (by decide +kernel)
    | 4, _ => exact hs _ (by decide +kernel)
    | 5, _ => exact hs _ (by decide +kernel)
    | 6, _ => exact hs _ (by decide +kernel)
    | n + 7, h => omega
  · intro i hi
    match i, hi with
    | 0, _ => exact hs _ (by decide +kernel)
    | 1, _ => exact hs _ (by decide +kernel)
    | 2, _ => exact hs _ (by decide +kernel)
    | 3, _ => exact hs _ (by decide +kernel)
    | 4, _ => exact hs _ (by decide +kernel)
    | 5, _ => exact hs _ (by decide +kernel)
    | 6, _ => exact hs _ (by decide +kernel)
    | n + 7, h => omega
  · intro i hi j hj
    match i, hi, j, hj with
    | 0, _, 0, _ => exact hs _ (by decide +kernel)
    | 0, _, 1, _ => exact hs _ (by decide +kernel)
    | 0, _, 2, _ => exact hs _ (by decide +kernel)
    | 1, _, 0, _ => exact hs _ (by decide +kernel)
    | 1, _, 1, _ => exact hs _ (by decide +kernel)
    | 1, _, 2, _ => exact hs _ (by decide +kernel)
    | 1, _, 3, _ => exact hs _ (by decide +kernel)
    | 2, _, 0, _ => exact hs _ (by decide +kernel)
    | 2, _, 1, _ => exact hs _ (by decide +kernel)
    | 2, _, 2, _ => exact hs _ (by decide +kernel)
    | 2, _, 3, _ => exact hs _ (by decide +kernel)
    | 3, _, 0, _ => exact hs _ (by decide +kernel)
    | 3, _, 1, _ => exact hs _ (by decide +kernel)
    | 3, _, 2, _ => exact hs _ (by decide +kernel)
    | 3, _, 3, _ => exact hs _ (by decide +kernel)
    | 4, _, 0, _ => exact hs _ (by decide +kernel)
    | 4, _, 1, _ => exact hs _ (by decide +kernel)
    | 4, _, 2, _ => exact hs _ (by decide +kernel)
    | 4, _, 3, _ => exact hs _ (by decide +kernel)
    | 4, _, 4, _ => exact hs _ (by decide +kernel)
    | 5, _, 0, _ => exact hs _ (by decide +kernel)
    | 5, _, 1, _ => exact hs _ (by decide +kernel)
    | 5, _, 2, _ => exact hs _ (by decide +kernel)
    | 5, _, 3, _ => exact hs _ (by decide +kernel)
    | 5, _, 4, _ => exact hs _ (by decide +kernel)
    | 6, _, 0, _ => exact hs _ (by decide +kernel)
    | 6, _, 1, _ => exact hs _ (by decide +kernel)
    | 6, _, 2, _ => exact hs _ (by decide +kernel)
    | 0, _, n + 3, h => exact absurd h (by show ¬ n + 3 < 3; omega)
    | 1, _, n + 4, h => exact absurd h (by show ¬ n + 4 < 4; omega)
    | 2, _, n + 4, h => exact absurd h (by show ¬ n + 4 < 4; omega)
    | 3, _, n + 4, h => exact absurd h (by show ¬ n + 4 < 4; omega)
    | 4, _, n + 5, h => exact absurd h (by show ¬ n + 5 < 5; omega)
    | 5, _, n + 5, h => exact absurd h (by show ¬ n + 5 < 5; omega)
    | 6, _, n + 3, h => exact absurd h (by show ¬ n + 3 < 3; omega)
    | n + 7, h, _, _ => omega
  · intro i j hi hj hij
    match i, hi, j, hj with
    | 0, _, 0, _ => exact absurd rfl hij
    | 0, _, 1, _ => exact Or.inl (hs _ (by decide +kernel))
    | 0, _, 2, _ => exact Or.inl (hs _ (by decide +kernel))
    | 0, _, 3, _ => exact Or.inl (hs _ (by decide +kernel))
    | 0, _, 4, _ => exact Or.inl (hs _ (by decide +kernel))
    | 0, _, 5, _ => exact Or.inl (hs _ (by decide +kernel))
    | 0, _, 6, _ => exact Or.inl (hs _ (by decide +kernel))
    | 1, _, 0, _ => exact Or.inr (hs _ (by decide +kernel))
    | 1, _, 1, _ => exact absurd rfl hij
    | 1, _, 2, _ => exact Or.inl (hs _ (by decide +kernel))
    | 1, _, 3, _ => exact Or.inl (hs _ (by decide +kernel))
    | 1, _, 4, _ => exact Or.inl (hs _ (by decide +kernel))
    | 1, _, 5, _ => exact Or.inl (hs _ (by decide +kernel))
    | 1, _, 6, _ => exact Or.inl (hs _ (by decide +kernel))
    | 2, _, 0, _ => exact Or.inr (hs _ (by decide +kernel))
    | 2, _, 1, _ => exact Or.inr (hs _ (by decide +kernel))
    | 2, _, 2, _ => exact absurd rfl hij
    | 2, _, 3, _ => exact Or.inl (hs _ (by decide +kernel))
    | 2, _, 4, _ => exact Or.inl (hs _ (by decide +kernel))
    | 2, _, 5, _ => exact Or.inl (hs _ (by decide +kernel))
    | 2, _, 6, _ => exact Or.inl (hs _ (by decide +kernel))
    | 3, _, 0, _ => exact Or.inr (hs _ (by decide +kernel))
    | 3, _, 1, _ => exact Or.inr (hs _ (by decide +kernel))
    | 3, _, 2, _ => exact Or.inr (hs _ (by decide +kernel))
    | 3, _, 3, _ => exact absurd rfl hij
    | 3, _, 4, _ => exact Or.inl (hs _ (by decide +kernel))
    | 3, _, 5, _ => exact Or.inl (hs _ (by decide +kernel))
    | 3, _, 6, _ => exact Or.inl (hs _ (by decide +kernel))
    | 4, _, 0, _ => exact Or.inr (hs _ (by decide +kernel))
    | 4, _, 1, _ => exact Or.inr (hs _ (by decide +kernel))
    | 4, _, 2, _ => exact Or.inr (hs _ (by decide +kernel))
    | 4, _, 3, _ => exact Or.inr (hs _ (by decide +kernel))
    | 4, _, 4, _ => exact absurd rfl hij
    | 4, _, 5, _ => exact Or.inl (hs _ (by decide +kernel))
    | 4, _, 6, _ => exact Or.inl (hs _ (by decide +kernel))
    | 5, _, 0, _ => exact Or.inr (hs _ (by decide +kernel))
    | 5, _, 1, _ => exact Or.inr (hs _ (by decide +kernel))
    | 5, _, 2, _ => exact Or.inr (hs _ (by decide +kernel))
    | 5, _, 3, _ => exact Or.inr (hs _ (by decide +kernel))
    | 5, _, 4, _ => exact Or.inr (hs _ (by decide +kernel))
    | 5, _, 5, _ => exact absurd rfl hij
    | 5, _, 6, _ => exact Or.inl (hs _ (by decide +kernel))
    | 6, _, 0, _ => exact Or.inr (hs _ (by decide +kernel))
    | 6, _, 1, _ => exact Or.inr (hs _ (by decide +kernel))
    | 6, _, 2, _ => exact Or.inr (hs _ (by decide +kernel))
    | 6, _, 3, _ => exact Or.inr (hs _ (by decide +kernel))
    | 6, _, 4, _ => exact Or.inr (hs _ (by decide +kernel))
    | 6, _, 5, _ => exact Or.inr (hs _ (by decide +kernel))
    | 6, _, 6, _ => exact absurd rfl hij
    | n + 7, h, _, _ => omega
    | _, _, n + 7, h => omega
theorem kn_of {own : String} {idx ci N : Nat} {fs : List Value} {args : Array Value} {s : State} (hts : ∀ w ∈ zT, w.before args s = true) (h : zNw own idx ci N fs) : ∃ x : ClassId × (Nat → Nat), ∀ q, vwCl[ci]? = some q → u_Kn s q.1 q.2.1 q.2.2 x.1 x.2 := by
  obtain ⟨C, T, tyf, hc, hin, hty, h1, h2, h3, -⟩ := h
  obtain ⟨cC, iS, hk⟩ := u_known hts hin (hts _ h2)
  refine ⟨(cC, iS), fun q hq => ?_⟩
  rw [hc] at hq
  cases hq
  exact hk
theorem l_K {args : Array Value} {s : State} (hts : ∀ w ∈ zT, w.before args s = true) : ∃ D : va_G, va_K D vwCl [] s := by
  have h0 : ∀ ci : Nat, ∃ x : ClassId × (Nat → Nat), ∀ q, vwCl[ci]? = some q → u_Kn s q.1 q.2.1 q.2.2 x.1 x.2 := by
    intro ci
    match ci with
    | 0 => exact kn_of hts nwX6_49
    | 1 => exact kn_of hts nwX6_16
    | 2 => exact kn_of hts nwX6_63
    | 3 => exact kn_of hts nwX6_26
    | 4 => exact kn_of hts nwX6_56
    | 5 => exact kn_of hts nwX6_7
    | 6 => exact kn_of hts nwL_7
    | 7 => exact kn_of hts nwL_10
    | n + 8 => exact ⟨(default, fun _ => 0), fun q hq => by
        rw [List.getElem?_eq_none (show vwCl.length ≤ n + 8 by have : vwCl.length = 8 := rfl; omega)] at hq
        cases hq⟩
  obtain ⟨f, hf⟩ := Classical.axiomOfChoice h0
  exact ⟨(fun c => (f c).1, fun c => (f c).2), fun c q hq => hf c q hq, fun k q hk => by simp at hk⟩
theorem l_fm {s : State} {b : Nat} (hts : ∀ w ∈ lw_tbl, w.before #[Value.ref b] s = true) (hgv : (Jvm.Cond.and given_1 narrow_1).before #[Value.ref b] s = true) (hA : ∀ a : Nat, a < s.heap.size → ¬ (fun q => s.heap.size ≤ q) a) : ∃ fm : Nat, va_Z "jdk/internal/util/Preconditions" "SIOOBE_FORMATTER" "Ljava/util/function/BiFunction;" .null (fun q => s.heap.size ≤ q) s s.heap ∨ va_Z "jdk/internal/util/Preconditions" "SIOOBE_FORMATTER" "Ljava/util/function/BiFunction;" (.ref fm) (fun q => s.heap.size ≤ q) s s.heap := by
  have hs := flat_of_before _ hgv
  obtain ⟨v, hv⟩ : ∃ v, (Term.static "jdk/internal/util/Preconditions" "SIOOBE_FORMATTER" "Ljava/util/function/BiFunction;").eval #[Value.ref b] s none [] s = some v ∧ (v = .null ∨ ∃ a, v = .ref a) := by
    have hr : (Cond.isRef (Term.static "jdk/internal/util/Preconditions" "SIOOBE_FORMATTER" "Ljava/util/function/BiFunction;")).before #[Value.ref b] s = true := hs _ (by decide +kernel)
    simp only [Cond.before, Cond.holds, Cond.value] at hr
    cases hv : (Term.static "jdk/internal/util/Preconditions" "SIOOBE_FORMATTER" "Ljava/util/function/BiFunction;").eval #[Value.ref b] s none [] s with
    | none => simp [hv] at hr
    | some v => cases v <;> simp [hv] at hr ⊢
  obtain ⟨hv, rfl | ⟨a, rfl⟩⟩ := hv
  · exact ⟨0, Or.inl (va_Zof (hts _ (tb2 (i := 84) (by decide +kernel))) (hts _ (tb1 (i := 11) (by decide +kernel))) hv hA)⟩
  · exact ⟨a, Or.inr (va_Zof (hts _ (tb2 (i := 84) (by decide +kernel))) (hts _ (tb1 (i := 11) (by decide +kernel))) hv hA)⟩
theorem l_zX {g : zG} {s : State} {b fm : Nat} {adK adV : Nat → Nat} (hzb : zbase g = s.heap.size) (hts : ∀ w ∈ lw_tbl, w.before #[Value.ref b] s = true) (hgv : (Jvm.Cond.and given_1 narrow_1).before #[Value.ref b] s = true) (hS7 : vk_S 7 zlen zbyt adK adV (zA g) s s.heap) (hev : ∀ i : Nat, i < 7 → (l_tm i).eval #[Value.ref b] s none [] s = some (.ref (adK i))) (hfm : va_Z "jdk/internal/util/Preconditions" "SIOOBE_FORMATTER" "Ljava/util/function/BiFunction;" .null (zA g) s s.heap ∨ va_Z "jdk/internal/util/Preconditions" "SIOOBE_FORMATTER" "Ljava/util/function/BiFunction;" (.ref fm) (zA g) s s.heap) (ha1 : ∀ i, i < 10 → za g (zE0 + i) = adK i) (ha2 : ∀ i, i < 10 → za g (zE0 + 10 + i) = adV i) (ha3 : za g (zE0 + 20) = fm) : zX g s := by
  have hA : ∀ a : Nat, a < s.heap.size → ¬ zA g a := fun a h1 h2 => by have : zbase g ≤ a := h2; omega
  have hs := flat_of_before _ hgv
  refine ⟨va_Zof (hts _ (tb2 (i := 68) (by decide +kernel))) (hts _ (tb1 (i := 9) (by decide +kernel))) (va_eqt (hs _ (by decide +kernel))) hA, ?_, ?_, ?_⟩
  · rw [ha3]
    exact hfm
  · refine ⟨fun i hi => ?_, fun i j hi hj e => ?_⟩
    · have := hS7.1 i hi
      simp only [ha1 i (by omega), ha2 i (by omega)]
      exact this
    · simp only [ha1 i (by omega), ha1 j (by omega)] at e
      exact hS7.2 i j hi hj e
  · intro i q hq
    have hi : i < 7 := (List.getElem?_eq_some_iff.mp hq).1
    have h2 := hev i hi
    rw [ha1 i (by omega)]
    match i, hi with
    | 0, _ => cases hq; exact vk_R.of (hts _ (tb2 (i := 54) (by decide +kernel))) h2
    | 1, _ => cases hq; exact vk_R.of (hts _ (tb2 (i := 124) (by decide +kernel))) h2
    | 2, _ => cases hq; exact vk_R.of (hts _ (tb2 (i := 129) (by decide +kernel))) h2
    | 3, _ => cases hq; exact vk_R.of (hts _ (tb2 (i := 159) (by decide +kernel))) h2
    | 4, _ => cases hq; exact vk_R.of (hts _ (tb2 (i := 161) (by decide +kernel))) h2
    | 5, _ => cases hq; exact vk_R.of (hts _ (tb2 (i := 162) (by decide +kernel))) h2
    | 6, _ => cases hq; exact vk_R.of (hts _ (tb2 (i := 163) (by decide +kernel))) h2
    | n + 7, h => omega
theorem l_zK {g : zG} {s : State} {b : Nat} (hts : ∀ w ∈ lw_tbl, w.before #[Value.ref b] s = true) (hK : va_K g.2.1 vwCl [] s) (hzX : zX g s) (hkap : ∀ ty, zkap g ty = (s.vm.findClass ("[" ++ ty.toString)).getD default) : zK g s := by
  refine ⟨hK, fun ty cA q => ?_, fun w hw => ?_, hzX⟩
  · rw [hkap, q]; rfl
  · have h1 := List.all_eq_true.mp zNW_nest w hw
    have h2 := hts w (zNW_in w hw)
    cases w with
    | fieldLinkNest a i b n d hh => exact va_Nw.of rfl h2
    | methodLinkNest a i x hh => exact va_Nw.of rfl h2
    | _ => exact absurd h1 (by simp [zisNest])
theorem l_go {Rel : zmem → Prop} (E : EqA Rel) (h0 : Rel m00) {p : Program} {e : Env} {s : State} {m : MethodId} {below : List Frame} {meth : Method} {c : Code} {g : zG} {b L : Nat} {xs : Nat → Int32} (hL : L ≤ 2560) (hx : p.tables.exec = Jvm.exec) (hcode : c.code = code) (hret : meth.sig.returnType = ret) (hml : c.maxLocals = 4) (hown : s.vm.findClass R_law = some m.cls) (htz : ∀ w ∈ zT, w.before #[Value.ref b] s = true) (hX : va_X b L xs s s.heap) (hbl : b < s.heap.size) (hlocks : meth.locks = false) (ha4 : za g (zE0 + 50) = b) (hzb : zbase g = s.heap.size) (hzK : zK g s) : W p g.1 e room_1 s m #[Value.ref b] below meth c s.heap [] 0 0 (lw_Z below #[Value.ref b] s) (entryFrame m ([Value.ref b] : List Value).toArray 4) := by
  have hzO : zO g s [] s.heap := ⟨fun k q hk => by simp [zw] at hk, by rw [hzb]; rfl, Nat.zero_le _, fun k ty x hk => by simp at hk⟩
  have hl := lv_entry ([Value.ref b]) (n := 4) (Nat.le_of_ble_eq_true rfl)
  rw [lg_entry_eq]
  have e0 : lv_args 0 [Value.ref b] = zloc g [(0, .ref (zE0 + 50))] := by
    show [(0, Value.ref b)] = [(0, .ref (za g (zE0 + 50)))]
    rw [ha4]
  rw [e0] at hl
  have hF : lF b L xs p e room_1 s m #[Value.ref b] below meth c g (lw_Z below #[Value.ref b] s) := ⟨rfl, rfl, rfl, hX, hbl, ha4, hzb⟩
  have hO : zOk (lB b L xs) p e room_1 s m #[Value.ref b] below meth c g := ⟨hx, hcode, hml, hown, htz, hlocks, hret.trans l_ret, fun hn => absurd hn (show ¬ "law" = "<init>" by decide), Nat.le_of_ble_eq_true rfl, Nat.le_of_ble_eq_true rfl, Nat.le_of_ble_eq_true rfl, Nat.le_of_ble_eq_true rfl, hzK, Nat.le_of_eq hzb⟩
  exact law_body (b := b) (xs := xs) E h0 hL p e room_1 s m #[Value.ref b] below meth c g (lw_Z below #[Value.ref b] s) hF hO s.heap [] _ hzO va_S.rf hl
theorem law_start {Rel : zmem → Prop} (E : EqA Rel) (h0 : Rel m00) {p : Program} {e : Env} {s : State} {m : MethodId} {below : List Frame} {meth : Method} {c : Code} (l : Launch) {b L : Nat} {xs : Nat → Int32} (hL : L ≤ 2560) (C0 : lw_At p s m meth c b L xs) : W p l e room_1 s m #[Value.ref b] below meth c s.heap [] 0 0 (lw_Z below #[Value.ref b] s) (entryFrame m ([Value.ref b] : List Value).toArray 4) := by
  obtain ⟨hx, hcode, hret, hml, hown, hts, hX, hbl, hlocks, hgv⟩ := C0
  have htz : ∀ w ∈ zT, w.before #[Value.ref b] s = true := fun w hw => hts w (zT_sub w hw)
  obtain ⟨D, hK⟩ := l_K htz
  have hA : ∀ a : Nat, a < s.heap.size → ¬ (fun q => s.heap.size ≤ q) a := fun a h1 h2 => by have : s.heap.size ≤ a := h2; omega
  obtain ⟨adK, adV, hS7, hev⟩ := l_strs hgv hA
  have hs := flat_of_before _ hgv
  have hfm := l_fm hts hgv hA
  obtain ⟨fm, hfm⟩ := hfm
  let g : zG := (l, D, fun ty => (s.vm.findClass ("[" ++ ty.toString)).getD default, s.heap.size, fun k => if k < zE0 + 10 then adK (k - zE0) else if k < zE0 + 20 then adV (k - (zE0 + 10)) else if k = zE0 + 20 then fm else b)
  have hz : ∀ k, za g k = if k < zE0 then s.heap.size + k else (if k < zE0 + 10 then adK (k - zE0) else if k < zE0 + 20 then adV (k - (zE0 + 10)) else if k = zE0 + 20 then fm else b) := fun k => rfl
  have ha1 : ∀ i, i < 10 → za g (zE0 + i) = adK i := fun i hi => by
    rw [hz, if_neg (by omega), if_pos (by omega), Nat.add_sub_cancel_left]
  have ha2 : ∀ i, i < 10 → za g (zE0 + 10 + i) = adV i := fun i hi => by
    rw [hz, if_neg (by omega), if_neg (by omega), if_pos (by omega), Nat.add_sub_cancel_left]
  have ha3 : za g (zE0 + 20) = fm := by
    rw [hz, if_neg (by omega), if_neg (by omega), if_neg (by omega), if_pos rfl]
  have ha4 : za g (zE0 + 50) = b := by
    rw [hz, if_neg (by omega), if_neg (by omega), if_neg (by omega), if_neg (by omega)]
  have hzX : zX g s := l_zX (adK := adK) (adV := adV) (fm := fm) rfl hts hgv hS7 hev hfm ha1 ha2 ha3
  have hzK : zK g s := l_zK hts hK hzX (fun _ => rfl)
  exact l_go (g := g) E h0 hL hx hcode hret hml hown htz hX hbl hlocks ha4 rfl hzK
