/-! THE START -/
theorem tb1 {i : Nat} {w : Cond} (h : tables_1_1[i]? = some w) : w ∈ lw_tbl := List.mem_append_right _ (List.mem_append_left _ (List.mem_of_getElem? h))
theorem tb2 {i : Nat} {w : Cond} (h : tables_1_2[i]? = some w) : w ∈ lw_tbl := List.mem_append_right _ (List.mem_append_right _ (List.mem_append_left _ (List.mem_of_getElem? h)))
theorem tb3 {i : Nat} {w : Cond} (h : tables_1_3[i]? = some w) : w ∈ lw_tbl := List.mem_append_right _ (List.mem_append_right _ (List.mem_append_right _ (List.mem_append_left _ (List.mem_of_getElem? h))))
theorem tb4 {i : Nat} {w : Cond} (h : tables_1_4[i]? = some w) : w ∈ lw_tbl := List.mem_append_right _ (List.mem_append_right _ (List.mem_append_right _ (List.mem_append_right _ (List.mem_append_left _ (List.mem_of_getElem? h)))))
theorem tb5 {i : Nat} {w : Cond} (h : tables_1_5[i]? = some w) : w ∈ lw_tbl := List.mem_append_right _ (List.mem_append_right _ (List.mem_append_right _ (List.mem_append_right _ (List.mem_append_right _ (List.mem_of_getElem? h)))))
theorem l_ret : ret = some FieldType.boolean := rfl
def l_tm (i : Nat) : Term := match i with
  | 0 => .string "LoftGraves$Parish" 81
  | 1 => .string "LoftGraves$Parish" 90
  | 2 => .string "LoftGraves$Parish" 95
  | 3 => .string "LoftGraves$Custom" 47
  | 4 => .string "LoftGraves$Custom" 53
  | 5 => .string "LoftGraves$Custom" 55
  | _ => .string "LoftGraves$Custom" 57
theorem l_strs {args : Array Value} {s : State} {A : Nat → Prop} (h : (Jvm.Cond.and given_1 narrow_1).before args s = true) (hA : ∀ a : Nat, a < s.heap.size → ¬ A a) : ∃ adK adV : Nat → Nat, vk_S 7 zlen zbyt adK adV A s s.heap ∧ ∀ i : Nat, i < 7 → (l_tm i).eval args s none [] s = some (.ref (adK i)) := by
  have hs := flat_of_before _ h
  refine vk_Sof ?_ ?_ ?_ ?_ ?_ ?_ ?_ hA
  · intro i hi
    match i, hi with
    | 0, _ => decide
    | 1, _ => decide
    | 2, _ => decide
    | 3, _ => decide
    | 4, _ => decide
    | 5, _ => decide
    | 6, _ => decide
    | n + 7, h => omega
  · intro i hi
    match i, hi with
    | 0, _ => exact hs _ (by decide +kernel)
    | 1, _ => exact hs _ (by decide +kernel)
    | 2, _ => exact hs _ (by decide +kernel)
    | 3, _ => exact hs _ (by decide +kernel)
    | 4, _ => exact hs _ (by decide +kernel)
    | 5, _ => exact hs _ (by decide +kernel)
    | 6, _ => exact hs _ (by decide +kernel)
    | n + 7, h => omega
  · intro i hi
    match i, hi with
    | 0, _ => exact hs _ (by decide +kernel)
    | 1, _ => exact hs _ (by decide +kernel)
    | 2, _ => exact hs _ (by decide +kernel)
    | 3, _ => exact hs _ (by decide +kernel)
    | 4, _ => exact hs _ (by decide +kernel)
    | 5, _ => exact hs _ (by decide +kernel)
    | 6, _ => exact hs _ (by decide +kernel)
    | n + 7, h => omega
  · intro i hi
    match i, hi with
    | 0, _ => exact hs _ (by decide +kernel)
    | 1, _ => exact hs _ (by decide +kernel)
    | 2, _ => exact hs _ (by decide +kernel)
    | 3, _ => exact hs _ (by decide +kernel)
    | 4, _ => exact hs _ (by decide +kernel)
    | 5, _ => exact hs _ (by decide +kernel)
    | 6, _ => exact hs _ (by decide +kernel)
    | n + 7, h => omega
  · intro i hi
    match i, hi with
    | 0, _ => exact hs _ (by decide +kernel)
    | 1, _ => exact hs _ (by decide +kernel)
    | 2, _ => exact hs _ (by decide +kernel)
    | 3, _ => exact hs _ (by decide +kernel)
    | 4, _ => exact hs _ (by decide +kernel)
    | 5, _ => exact hs _ (by decide +kernel)
    | 6, _ => exact hs _ (by decide +kernel)
    | n + 7, h => omega
  · intro i hi j hj
    match i, hi, j, hj with
    | 0, _, 0, _ => exact hs _ (by decide +kernel)
    | 0, _, 1, _ => exact hs _ (by decide +kernel)
    | 0, _, 2, _ => exact hs _ (by decide +kernel)
    | 1, _, 0, _ => exact hs _ (by decide +kernel)
    | 1, _, 1, _ => exact hs _ (by decide +kernel)
    | 1, _, 2, _ => exact hs _ (by decide +kernel)
    | 1, _, 3, _ => exact hs _ (by decide +kernel)
    | 2, _, 0, _ => exact hs _ (by decide +kernel)
    | 2, _, 1, _ => exact hs _ (by decide +kernel)
    | 2, _, 2, _ => exact hs _ (by decide +kernel)
    | 2, _, 3, _ => exact hs _ (by decide +kernel)
    | 3, _, 0, _ => exact hs _ (by decide +kernel)
    | 3, _, 1, _ => exact hs _ (by decide +kernel)
    | 3, _, 2, _ => exact hs _ (by decide +kernel)
    | 3, _, 3, _ => exact hs _ (by decide +kernel)
    | 4, _, 0, _ => exact hs _ (by decide +kernel)
    | 4, _, 1, _ => exact hs _ (by decide +kernel)
    | 4, _, 2, _ => exact hs _ (by decide +kernel)
    | 4, _, 3, _ => exact hs _ (by decide +kernel)
    | 4, _, 4, _ => exact hs _ (by decide +kernel)
    | 5, _, 0, _ => exact hs _ (by decide +kernel)
    | 5, _, 1, _ => exact hs _ (by decide +kernel)
    | 5, _, 2, _ => exact hs _ (by decide +kernel)
    | 5, _, 3, _ => exact hs _ (by decide +kernel)
    | 5, _, 4, _ => exact hs _ (by decide +kernel)
    | 6, _, 0, _ => exact hs _ (by decide +kernel)
    | 6, _, 1, _ => exact hs _ (by decide +kernel)
    | 6, _, 2, _ => exact hs _ (by decide +kernel)
    | 0, _, n + 3, h => exact absurd h (by show ¬ n + 3 < 3; omega)
    | 1, _, n + 4, h => exact absurd h (by show ¬ n + 4 < 4; omega)
    | 2, _, n + 4, h => exact absurd h (by show ¬ n + 4 < 4; omega)
    | 3, _, n + 4, h => exact absurd h (by show ¬ n + 4 < 4; omega)
    | 4, _, n + 5, h => exact absurd h (by show ¬ n + 5 < 5; omega)
    | 5, _, n + 5, h => exact absurd h (by show ¬ n + 5 < 5; omega)
    | 6, _, n + 3, h => exact absurd h (by show ¬ n + 3 < 3; omega)
    | n + 7, h, _, _ => omega
  · intro i j hi hj hij
    match i, hi, j, hj with
    | 0, _, 0, _ => exact absurd rfl hij
    | 0, _, 1, _ => exact Or.inl (hs _ (by decide +kernel))
    | 0, _, 2, _ => exact Or.inl (hs _ (by decide +kernel))
    | 0, _, 3, _ => exact Or.inl (hs _ (by decide +kernel))
    | 0, _, 4, _ => exact Or.inl (hs _ (by decide +kernel))
    | 0, _, 5, _ => exact Or.inl (hs _ (by decide +kernel))
    | 0, _, 6, _ => exact Or.inl (hs _ (by decide +kernel))
    | 1, _, 0, _ => exact Or.inr (hs _ (by decide +kernel))
    | 1, _, 1, _ => exact absurd rfl hij
    | 1, _, 2, _ => exact Or.inl (hs _ (by decide +kernel))
    | 1, _, 3, _ => exact Or.inl (hs _ (by decide +kernel))
    | 1, _, 4, _ => exact Or.inl (hs _ (by decide +kernel))
    | 1, _, 5, _ => exact Or.inl (hs _ (by decide +kernel))
    | 1, _, 6, _ => exact Or.inl (hs _ (by decide +kernel))
    | 2, _, 0, _ => exact Or.inr (hs _ (by decide +kernel))
    | 2, _, 1, _ => exact Or.inr (hs _ (by decide +kernel))
    | 2, _, 2, _ => exact absurd rfl hij
    | 2, _, 3, _ => exact Or.inl (hs _ (by decide +kernel))
    | 2, _, 4, _ => exact Or.inl (hs _ (by decide +kernel))
    | 2, _, 5, _ => exact Or.inl (hs _ (by decide +kernel))
    | 2, _, 6, _ => exact Or.inl (hs _ (by decide +kernel))
    | 3, _, 0, _ => exact Or.inr (hs _ (by decide +kernel))
    | 3, _, 1, _ => exact Or.inr (hs _ (by decide +kernel))
    | 3, _, 2, _ => exact Or.inr (hs _ (by decide +kernel))
    | 3, _, 3, _ => exact absurd rfl hij
    | 3, _, 4, _ => exact Or.inl (hs _ (by decide +kernel))
    | 3, _, 5, _ => exact Or.inl (hs _ (by decide +kernel))
    | 3, _, 6, _ => exact Or.inl (hs _ (by decide +kernel))
    | 4, _, 0, _ => exact Or.inr (hs _ (by decide +kernel))
    | 4, _, 1, _ => exact Or.inr (hs _ (by decide +kernel))
    | 4, _, 2, _ => exact Or.inr (hs _ (by decide +kernel))
    | 4, _, 3, _ => exact Or.inr (hs _ (by decide +kernel))
    | 4, _, 4, _ => exact absurd rfl hij
    | 4, _, 5, _ => exact Or.inl (hs _ (by decide +kernel))
    | 4, _, 6, _ => exact Or.inl (hs _ (by decide +kernel))
    | 5, _, 0, _ => exact Or.inr (hs _ (by decide +kernel))
    | 5, _, 1, _ => exact Or.inr (hs _ (by decide +kernel))
    | 5, _, 2, _ => exact Or.inr (hs _ (by decide +kernel))
    | 5, _, 3, _ => exact Or.inr (hs _ (by decide +kernel))
    | 5, _, 4, _ => exact Or.inr (hs _ (by decide +kernel))
    | 5, _, 5, _ => exact absurd rfl hij
    | 5, _, 6, _ => exact Or.inl (hs _ (by decide +kernel))
    | 6, _, 0, _ => exact Or.inr (hs _ (by decide +kernel))
    | 6, _, 1, _ => exact Or.inr (hs _ (by decide +kernel))
    | 6, _, 2, _ => exact Or.inr (hs _ (by decide +kernel))
    | 6, _, 3, _ => exact Or.inr (hs _ (by decide +kernel))
    | 6, _, 4, _ => exact Or.inr (hs _ (by decide +kernel))
    | 6, _, 5, _ => exact Or.inr (hs _ (by decide +kernel))
    | 6, _, 6, _ => exact absurd rfl hij
    | n + 7, h, _, _ => omega
    | _, _, n + 7, h => omega
theorem kn_of {own : String} {idx ci N : Nat} {fs : List Value} {args : Array Value} {s : State} (hts : ∀ w ∈ zT, w.before args s = true) (h : zNw own idx ci N fs) : ∃ x : ClassId × (Nat → Nat), ∀ q, vwCl[ci]? = some q → u_Kn s q.1 q.2.1 q.2.2 x.1 x.2 := by
  obtain ⟨C, T, tyf, hc, hin, hty, h1, h2, h3, -⟩ := h
  obtain ⟨cC, iS, hk⟩ := u_known hts hin (hts _ h2)
  refine ⟨(cC, iS), fun q hq => ?_⟩
  rw [hc] at hq
  cases hq
  exact hk
theorem l_K {args : Array Value} {s : State} (hts : ∀ w ∈ zT, w.before args s = true) : ∃ D : va_G, va_K D vwCl [] s := by
  have h0 : ∀ ci : Nat, ∃ x : ClassId × (Nat → Nat), ∀ q, vwCl[ci]? = some q → u_Kn s q.1 q.2.1 q.2.2 x.1 x.2 := by
    intro ci
    match ci with
    | 0 => exact kn_of hts nwX6_49
    | 1 => exact kn_of hts nwX6_16
    | 2 => exact kn_of hts nwX6_63
    | 3 => exact kn_of hts nwX6_26
    | 4 => exact kn_of hts nwX6_56
    | 5 => exact kn_of hts nwX6_7
    | 6 => exact kn_of hts nwL_7
    | 7 => exact kn_of hts nwL_10
    | n + 8 => exact ⟨(default, fun _ => 0), fun q hq => by
        rw [List.getElem?_eq_none (show vwCl.length ≤ n + 8 by have : vwCl.length = 8 := rfl; omega)] at hq
        cases hq⟩
  obtain ⟨f, hf⟩ := Classical.axiomOfChoice h0
  exact ⟨(fun c => (f c).1, fun c => (f c).2), fun c q hq => hf c q hq, fun k q hk => by simp at hk⟩
theorem l_fm {s : State} {b : Nat} (hts : ∀ w ∈ lw_tbl, w.before #[Value.ref b] s = true) (hgv : (Jvm.Cond.and given_1 narrow_1).before #[Value.ref b] s = true) (hA : ∀ a : Nat, a < s.heap.size → ¬ (fun q => s.heap.size ≤ q) a) : ∃ fm : Nat, va_Z "jdk/internal/util/Preconditions" "SIOOBE_FORMATTER" "Ljava/util/function/BiFunction;" .null (fun q => s.heap.size ≤ q) s s.heap ∨ va_Z "jdk/internal/util/Preconditions" "SIOOBE_FORMATTER" "Ljava/util/function/BiFunction;" (.ref fm) (fun q => s.heap.size ≤ q) s s.heap := by
  have hs := flat_of_before _ hgv
  obtain ⟨v, hv⟩ : ∃ v, (Term.static "jdk/internal/util/Preconditions" "SIOOBE_FORMATTER" "Ljava/util/function/BiFunction;").eval #[Value.ref b] s none [] s = some v ∧ (v = .null ∨ ∃ a, v = .ref a) := by
    have hr : (Cond.isRef (Term.static "jdk/internal/util/Preconditions" "SIOOBE_FORMATTER" "Ljava/util/function/BiFunction;")).before #[Value.ref b] s = true := hs _ (by decide +kernel)
    simp only [Cond.before, Cond.holds, Cond.value] at hr
    cases hv : (Term.static "jdk/internal/util/Preconditions" "SIOOBE_FORMATTER" "Ljava/util/function/BiFunction;").eval #[Value.ref b] s none [] s with
    | none => simp [hv] at hr
    | some v => cases v <;> simp [hv] at hr ⊢
  obtain ⟨hv, rfl | ⟨a, rfl⟩⟩ := hv
  · exact ⟨0, Or.inl (va_Zof (hts _ (tb2 (i := 84) (by decide +kernel))) (hts _ (tb1 (i := 11) (by decide +kernel))) hv hA)⟩
  · exact ⟨a, Or.inr (va_Zof (hts _ (tb2 (i := 84) (by decide +kernel))) (hts _ (tb1 (i := 11) (by decide +kernel))) hv hA)⟩
theorem l_zX {g : zG} {s : State} {b fm : Nat} {adK adV : Nat → Nat} (hzb : zbase g = s.heap.size) (hts : ∀ w ∈ lw_tbl, w.before #[Value.ref b] s = true) (hgv : (Jvm.Cond.and given_1 narrow_1).before #[Value.ref b] s = true) (hS7 : vk_S 7 zlen zbyt adK adV (zA g) s s.heap) (hev : ∀ i : Nat, i < 7 → (l_tm i).eval #[Value.ref b] s none [] s = some (.ref (adK i))) (hfm : va_Z "jdk/internal/util/Preconditions" "SIOOBE_FORMATTER" "Ljava/util/function/BiFunction;" .null (zA g) s s.heap ∨ va_Z "jdk/internal/util/Preconditions" "SIOOBE_FORMATTER" "Ljava/util/function/BiFunction;" (.ref fm) (zA g) s s.heap) (ha1 : ∀ i, i < 10 → za g (zE0 + i) = adK i) (ha2 : ∀ i, i < 10 → za g (zE0 + 10 + i) = adV i) (ha3 : za g (zE0 + 20) = fm) : zX g s := by
  have hA : ∀ a : Nat, a < s.heap.size → ¬ zA g a := fun a h1 h2 => by have : zbase g ≤ a := h2; omega
  have hs := flat_of_before _ hgv
  refine ⟨va_Zof (hts _ (tb2 (i := 68) (by decide +kernel))) (hts _ (tb1 (i := 9) (by decide +kernel))) (va_eqt (hs _ (by decide +kernel))) hA, ?_, ?_, ?_⟩
  · rw [ha3]
    exact hfm
  · refine ⟨fun i hi => ?_, fun i j hi hj e => ?_⟩
    · have := hS7.1 i hi
      simp only [ha1 i (by omega), ha2 i (by omega)]
      exact this
    · simp only [ha1 i (by omega), ha1 j (by omega)] at e
      exact hS7.2 i j hi hj e
  · intro i q hq
    have hi : i < 7 := (List.getElem?_eq_some_iff.mp hq).1
    have h2 := hev i hi
    rw [ha1 i (by omega)]
    match i, hi with
    | 0, _ => cases hq; exact vk_R.of (hts _ (tb2 (i := 54) (by decide +kernel))) h2
    | 1, _ => cases hq; exact vk_R.of (hts _ (tb2 (i := 124) (by decide +kernel))) h2
    | 2, _ => cases hq; exact vk_R.of (hts _ (tb2 (i := 129) (by decide +kernel))) h2
    | 3, _ => cases hq; exact vk_R.of (hts _ (tb2 (i := 159) (by decide +kernel))) h2
    | 4, _ => cases hq; exact vk_R.of (hts _ (tb2 (i := 161) (by decide +kernel))) h2
    | 5, _ => cases hq; exact vk_R.of (hts _ (tb2 (i := 162) (by decide +kernel))) h2
    | 6, _ => cases hq; exact vk_R.of (hts _ (tb2 (i := 163) (by decide +kernel))) h2
    | n + 7, h => omega
theorem l_zK {g : zG} {s : State} {b : Nat} (hts : ∀ w ∈ lw_tbl, w.before #[Value.ref b] s = true) (hK : va_K g.2.1 vwCl [] s) (hzX : zX g s) (hkap : ∀ ty, zkap g ty = (s.vm.findClass ("[" ++ ty.toString)).getD default) : zK g s := by
  refine ⟨hK, fun ty cA q => ?_, fun w hw => ?_, hzX⟩
  · rw [hkap, q]; rfl
  · have h1 := List.all_eq_true.mp zNW_nest w hw
    have h2 := hts w (zNW_in w hw)
    cases w with
    | fieldLinkNest a i b n d hh => exact va_Nw.of rfl h2
    | methodLinkNest a i x hh => exact va_Nw.of rfl h2
    | _ => exact absurd h1 (by simp [zisNest])
theorem l_go {Rel : zmem → Prop} (E : EqA Rel) (h0 : Rel m00) {p : Program} {e : Env} {s : State} {m : MethodId} {below : List Frame} {meth : Method} {c : Code} {g : zG} {b L : Nat} {xs : Nat → Int32} (hL : L ≤ 2560) (hx : p.tables.exec = Jvm.exec) (hcode : c.code = code) (hret : meth.sig.returnType = ret) (hml : c.maxLocals = 4) (hown : s.vm.findClass R_law = some m.cls) (htz : ∀ w ∈ zT, w.before #[Value.ref b] s = true) (hX : va_X b L xs s s.heap) (hbl : b < s.heap.size) (hlocks : meth.locks = false) (ha4 : za g (zE0 + 50) = b) (hzb : zbase g = s.heap.size) (hzK : zK g s) : W p g.1 e room_1 s m #[Value.ref b] below meth c s.heap [] 0 0 (lw_Z below #[Value.ref b] s) (entryFrame m ([Value.ref b] : List Value).toArray 4) := by
  have hzO : zO g s [] s.heap := ⟨fun k q hk => by simp [zw] at hk, by rw [hzb]; rfl, Nat.zero_le _, fun k ty x hk => by simp at hk⟩
  have hl := lv_entry ([Value.ref b]) (n := 4) (Nat.le_of_ble_eq_true rfl)
  rw [lg_entry_eq]
  have e0 : lv_args 0 [Value.ref b] = zloc g [(0, .ref (zE0 + 50))] := by
    show [(0, Value.ref b)] = [(0, .ref (za g (zE0 + 50)))]
    rw [ha4]
  rw [e0] at hl
  have hF : lF b L xs p e room_1 s m #[Value.ref b] below meth c g (lw_Z below #[Value.ref b] s) := ⟨rfl, rfl, rfl, hX, hbl, ha4, hzb⟩
  have hO : zOk (lB b L xs) p e room_1 s m #[Value.ref b] below meth c g := ⟨hx, hcode, hml, hown, htz, hlocks, hret.trans l_ret, fun hn => absurd hn (show ¬ "law" = "<init>" by decide), (show (1000 : Nat) ≤ 2048 by decide), (show 60 * (1000 : Nat) ≤ 84000 by decide), (show (600000 : Nat) ≤ 600000 from Nat.le_refl _), (show (7302250 : Nat) ≤ 7302250 from Nat.le_refl _), hzK, Nat.le_of_eq hzb⟩
  exact law_body (b := b) (xs := xs) E h0 hL p e room_1 s m #[Value.ref b] below meth c g (lw_Z below #[Value.ref b] s) hF hO s.heap [] _ hzO va_S.rf hl
theorem law_start {Rel : zmem → Prop} (E : EqA Rel) (h0 : Rel m00) {p : Program} {e : Env} {s : State} {m : MethodId} {below : List Frame} {meth : Method} {c : Code} (l : Launch) {b L : Nat} {xs : Nat → Int32} (hL : L ≤ 2560) (C0 : lw_At p s m meth c b L xs) : W p l e room_1 s m #[Value.ref b] below meth c s.heap [] 0 0 (lw_Z below #[Value.ref b] s) (entryFrame m ([Value.ref b] : List Value).toArray 4) := by
  obtain ⟨hx, hcode, hret, hml, hown, hts, hX, hbl, hlocks, hgv⟩ := C0
  have htz : ∀ w ∈ zT, w.before #[Value.ref b] s = true := fun w hw => hts w (zT_sub w hw)
  obtain ⟨D, hK⟩ := l_K htz
  have hA : ∀ a : Nat, a < s.heap.size → ¬ (fun q => s.heap.size ≤ q) a := fun a h1 h2 => by have : s.heap.size ≤ a := h2; omega
  obtain ⟨adK, adV, hS7, hev⟩ := l_strs hgv hA
  have hs := flat_of_before _ hgv
  have hfm := l_fm hts hgv hA
  obtain ⟨fm, hfm⟩ := hfm
  let g : zG := (l, D, fun ty => (s.vm.findClass ("[" ++ ty.toString)).getD default, s.heap.size, fun k => if k < zE0 + 10 then adK (k - zE0) else if k < zE0 + 20 then adV (k - (zE0 + 10)) else if k = zE0 + 20 then fm else b)
  have hz : ∀ k, za g k = if k < zE0 then s.heap.size + k else (if k < zE0 + 10 then adK (k - zE0) else if k < zE0 + 20 then adV (k - (zE0 + 10)) else if k = zE0 + 20 then fm else b) := fun k => rfl
  have ha1 : ∀ i, i < 10 → za g (zE0 + i) = adK i := fun i hi => by
    rw [hz, if_neg (by omega), if_pos (by omega), Nat.add_sub_cancel_left]
  have ha2 : ∀ i, i < 10 → za g (zE0 + 10 + i) = adV i := fun i hi => by
    rw [hz, if_neg (by omega), if_neg (by omega), if_pos (by omega), Nat.add_sub_cancel_left]
  have ha3 : za g (zE0 + 20) = fm := by
    rw [hz, if_neg (by omega), if_neg (by omega), if_neg (by omega), if_pos rfl]
  have ha4 : za g (zE0 + 50) = b := by
    rw [hz, if_neg (by omega), if_neg (by omega), if_neg (by omega), if_neg (by omega)]
  have hzX : zX g s := l_zX (adK := adK) (adV := adV) (fm := fm) rfl hts hgv hS7 hev hfm ha1 ha2 ha3
  have hzK : zK g s := l_zK hts hK hzX (fun _ => rfl)
  exact l_go (g := g) E h0 hL hx hcode hret hml hown htz hX hbl hlocks ha4 rfl hzK
/-! THE RELATION of class and reference: bits, rows -/
def bt (s : Int32) (k : Nat) : Bool := s.toBitVec.getLsbD k
theorem bt_or (a b : Int32) (k : Nat) : bt (a ||| b) k = (bt a k || bt b k) := by simp [bt]
theorem bt_and (a b : Int32) (k : Nat) : bt (a &&& b) k = (bt a k && bt b k) := by simp [bt]
theorem bt_not (a : Int32) {k : Nat} (h : k < 32) : bt (a ^^^ -1) k = !bt a k := by simp [bt, h]
theorem bt_zero (k : Nat) : bt 0 k = false := by simp [bt]
theorem bt_shl : ∀ j, j < 32 → ∀ k, k < 32 → bt (1 <<< (Int32.ofNat j &&& 31)) k = decide (j = k) := by decide +kernel
theorem bt_ext {a b : Int32} (h : ∀ k, k < 32 → bt a k = bt b k) : a = b := Int32.toBitVec_inj.mp (BitVec.eq_of_getLsbD_eq h)
theorem bt_one : ∀ k, k < 32 → bt 1 k = decide (k = 0) := by decide +kernel
theorem and1_bt (x : Int32) : x &&& 1 = 1 ↔ bt x 0 = true := by
  constructor
  · intro h
    have := congrArg (fun y => bt y 0) h
    simpa [bt_and, bt_one 0 (by decide)] using this
  · intro h
    apply bt_ext
    intro k hk
    rw [bt_and, bt_one k hk]
    by_cases e : k = 0
    · subst e; simp [h]
    · simp [e]
theorem smod32 : ∀ k, k < 32 → (((Int32.ofNat k &&& 31).toBitVec.smod 32).toNat) = k := by decide +kernel
theorem bt_shr (s : Int32) {k : Nat} (h : k < 32) : bt (s >>> (Int32.ofNat k &&& 31)) 0 = bt s k := by
  have e := smod32 k h
  simp only [bt, Int32.toBitVec_shiftRight, BitVec.sshiftRight', BitVec.getLsbD_sshiftRight, e]
  simp [h]
theorem rhas_bt (s : Int32) {k : Nat} (h : k < 32) : rhas s (Int32.ofNat k) = if bt s k = true then 1 else 0 := by
  have i : (s >>> (Int32.ofNat k &&& 31)) &&& 1 = 1 ↔ bt s k = true := by rw [and1_bt, bt_shr s h]
  unfold rhas
  by_cases e : bt s k = true
  · rw [if_neg (fun q => q (i.mpr e)), if_pos e]
  · rw [if_pos (fun q => e (i.mp q)), if_neg e]
theorem small31 : ∀ k, k < 31 → (¬ Int32.ofNat k < 0 ∧ ¬ 31 ≤ Int32.ofNat k) := by decide +kernel
theorem shas_bt (s : Int32) {k : Nat} (h : k < 31) : shas s (Int32.ofNat k) = if bt s k = true then 1 else 0 := by
  obtain ⟨h1, h2⟩ := small31 k h
  rw [← rhas_bt s (by omega)]
  unfold shas rhas
  rw [if_neg h1, if_neg h2]
theorem sbit_eq {k : Nat} (h : k < 31) : sbit (Int32.ofNat k) = 1 <<< (Int32.ofNat k &&& 31) := by
  obtain ⟨h1, h2⟩ := small31 k h
  unfold sbit
  rw [if_neg h1, if_neg h2]
theorem bt_sbit {j k : Nat} (h : j < 31) (hk : k < 32) : bt (sbit (Int32.ofNat j)) k = decide (j = k) := by rw [sbit_eq h, bt_shl j (by omega) k hk]
theorem bt_all : ∀ D, D < 9 → ∀ k, k < 32 → bt (sbit (Int32.ofNat D) - 1) k = decide (k < D) := by decide +kernel
theorem bt_c01 {c : Int32} {b : Bool} (hc : c = if b = true then 1 else 0) {j k : Nat} (hj : j < 32) (hk : k < 32) : bt (c <<< (Int32.ofNat j &&& 31)) k = (decide (j = k) && b) := by
  subst hc
  cases b
  · have : ∀ j, j < 32 → (0 : Int32) <<< (Int32.ofNat j &&& 31) = 0 := by decide +kernel
    simp [this j hj, bt_zero]
  · simp [bt_shl j hj k hk]
theorem sfold_bt {f : Nat → Int32 → Int32} {c : Nat → Bool} {b : Nat} (h : ∀ k s j, k < b → j < 32 → bt (f k s) j = (bt s j || (decide (k = j) && c k))) : ∀ n k s j, k + n ≤ b → j < 32 → bt (sfold f n k s) j = (bt s j || (decide (k ≤ j ∧ j < k + n) && c j)) := by
  intro n
  induction n with
  | zero =>
    intro k s j _ _
    have : ¬ (k ≤ j ∧ j < k + 0) := by omega
    show bt s j = _
    rw [decide_eq_false this, Bool.false_and, Bool.or_false]
  | succ n ih =>
    intro k s j hb hj
    show bt (sfold f n (k + 1) (f k s)) j = _
    rw [ih (k + 1) (f k s) j (by omega) hj, h k s j (by omega) hj]
    by_cases e : k = j
    · subst e
      have h1 : ¬ (k + 1 ≤ k ∧ k < k + 1 + n) := by omega
      have h2 : k ≤ k ∧ k < k + (n + 1) := by omega
      rw [decide_eq_false h1, decide_eq_true h2, decide_eq_true (rfl : k = k)]
      simp
    · have h1 : (k + 1 ≤ j ∧ j < k + 1 + n) ↔ (k ≤ j ∧ j < k + (n + 1)) := by omega
      simp [e, h1]
theorem sfold_congr {α : Type} {f g : Nat → α → α} : ∀ n k s, (∀ i s, k ≤ i → i < k + n → f i s = g i s) → sfold f n k s = sfold g n k s := by
  intro n
  induction n with
  | zero => intro k s _; rfl
  | succ n ih =>
    intro k s h
    show sfold f n (k + 1) (f k s) = sfold g n (k + 1) (g k s)
    rw [h k s (Nat.le_refl _) (by omega)]
    exact ih (k + 1) _ (fun i s h1 h2 => h i s (by omega) (by omega))
theorem sfind_congr {c d : Nat → Bool} : ∀ n k, (∀ i, k ≤ i → i < k + n → c i = d i) → sfind c n k = sfind d n k := by
  intro n
  induction n with
  | zero => intro k _; rfl
  | succ n ih =>
    intro k h
    show (if c k = true then _ else sfind c n (k + 1)) = (if d k = true then _ else sfind d n (k + 1))
    rw [h k (Nat.le_refl _) (by omega), ih (k + 1) (fun i h1 h2 => h i (by omega) (by omega))]
theorem sfold2 {α β : Type} {f : Nat → α → α} {g : Nat → β → β} {I : Nat → α → β → Prop} : ∀ n k s t, (∀ i s t, k ≤ i → i < k + n → I i s t → I (i + 1) (f i s) (g i t)) → I k s t → I (k + n) (sfold f n k s) (sfold g n k t) := by
  intro n
  induction n with
  | zero => intro k s t _ h; exact h
  | succ n ih =>
    intro k s t h h0
    show I (k + (n + 1)) (sfold f n (k + 1) (f k s)) (sfold g n (k + 1) (g k t))
    rw [show k + (n + 1) = k + 1 + n by omega]
    exact ih (k + 1) _ _ (fun i s t h1 h2 => h i s t (by omega) (by omega)) (h k s t (Nat.le_refl _) (by omega) h0)
theorem sfold_inv {α : Type} {f : Nat → α → α} {P : α → Prop} : ∀ n k s, (∀ i s, k ≤ i → i < k + n → P s → P (f i s)) → P s → P (sfold f n k s) := by
  intro n
  induction n with
  | zero => intro k s _ h; exact h
  | succ n ih =>
    intro k s h h0
    exact ih (k + 1) _ (fun i s h1 h2 => h i s (by omega) (by omega)) (h k s (Nat.le_refl _) (by omega) h0)
theorem n_lt0 {k : Nat} (h : k < 2147483648) : ¬ Int32.ofNat k < 0 := by
  rw [Int32.lt_iff_toInt_lt, i32 h]
  simp
theorem n_le {a b : Nat} (ha : a < 2147483648) (hb : b < 2147483648) : Int32.ofNat a ≤ Int32.ofNat b ↔ a ≤ b := by
  rw [Int32.le_iff_toInt_le, i32 ha, i32 hb]
  omega
theorem n_lt {a b : Nat} (ha : a < 2147483648) (hb : b < 2147483648) : Int32.ofNat a < Int32.ofNat b ↔ a < b := by
  rw [Int32.lt_iff_toInt_lt, i32 ha, i32 hb]
  omega
theorem n_eq {a b : Nat} (ha : a < 2147483648) (hb : b < 2147483648) : Int32.ofNat a = Int32.ofNat b ↔ a = b := ⟨fun h => ofNat_inj h ha hb, fun h => by rw [h]⟩
theorem aat_k {n k : Nat} {f : Nat → Int32} (hk : k < n) (hn : n < 2147483648) : aat n f (Int32.ofNat k) = f k := by
  unfold aat
  rw [if_neg (n_lt0 (by omega)), if_neg (by rw [n_le hn (by omega)]; omega), natc (by omega)]
theorem aput_k {m : zmem} {q n k : Nat} {v : Int32} (hk : k < n) (hn : n < 2147483648) : aput m q n (Int32.ofNat k) v = mset m q k v := by
  unfold aput
  rw [if_neg (n_lt0 (by omega)), if_neg (by rw [n_le hn (by omega)]; omega), natc (by omega)]
theorem sin_ex {y d : Int32} {D : Nat} (hy : y = Int32.ofNat D) (hD : D ≤ 8) (h : ¬ sin y d = 0) : ∃ k, k < D ∧ d = Int32.ofNat k := by
  obtain ⟨h1, h2⟩ := sin_nat hy hD h
  exact ⟨d.toNatClampNeg, h2, h1⟩
theorem wt_k {m : zmem} {X o k : Nat} (hk : k < 2147483648) : wt m X o (Int32.ofNat k) = m 58 (X + o + k) := by unfold wt; rw [natc hk]
theorem wp_k {m : zmem} {X o k : Nat} {v : Int32} (hk : k < 2147483648) : wp m X o (Int32.ofNat k) v = mset m 58 (X + o + k) v := by unfold wp; rw [natc hk]
/-! rows -/
def colO (c : Nat) : Nat := match c with | 1 => 0 | 2 => 8 | 3 => 16 | 5 => 24 | 6 => 32 | 7 => 40 | 8 => 56 | _ => 64
def colok (c : Nat) : Prop := c = 1 ∨ c = 2 ∨ c = 3 ∨ c = 5 ∨ c = 6 ∨ c = 7 ∨ c = 8 ∨ c = 9
def colN (c D Y : Nat) : Nat := if c = 1 then Y else D
def colP (c D Y : Nat) (v : Int32) : Prop := match c with
  | 1 => 0 ≤ v ∧ v ≤ 99
  | 2 => 0 ≤ v ∧ v ≤ 99
  | 3 => 0 ≤ v ∧ v ≤ 9999
  | 5 => 0 ≤ v ∧ v ≤ 9999
  | 6 => 0 ≤ v ∧ v ≤ 9
  | 7 => v = -1 ∨ ∃ i, i < Y ∧ v = Int32.ofNat i
  | 8 => ∃ j, j < D ∧ v = Int32.ofNat j
  | _ => ∃ j, j < 2 ^ D ∧ v = Int32.ofNat j
theorem colO_inj {c c' k k' : Nat} (hc : colok c) (hc' : colok c') (hk : k < 8) (hk' : k' < 8) (h : colO c + k = colO c' + k') : c = c' ∧ k = k' := by
  rcases hc with rfl | rfl | rfl | rfl | rfl | rfl | rfl | rfl <;> rcases hc' with rfl | rfl | rfl | rfl | rfl | rfl | rfl | rfl <;> simp only [colO] at h <;> omega
theorem colO_rng {c k : Nat} (hc : colok c) (hk : k < 8) : colO c + k < 72 ∧ ¬ (48 ≤ colO c + k ∧ colO c + k < 56) := by
  rcases hc with rfl | rfl | rfl | rfl | rfl | rfl | rfl | rfl <;> simp only [colO] <;> omega
/-- class parish p of s and row X of t hold the same -/
def PR (s : zmem) (p : Nat) (t : zmem) (X D Y : Nat) : Prop :=
  (∀ c, colok c → ∀ k, k < colN c D Y → s (p + c) k = t 58 (X + colO c + k) ∧ colP c D Y (t 58 (X + colO c + k))) ∧
  (∀ k, k < D → s (p + 4) k = t 63 k ∧ 0 ≤ t 63 k ∧ t 63 k ≤ 9) ∧
  (∀ k, k < D → bt (s p 13) k = decide (¬ t 58 (X + 48 + k) = 0) ∧ (t 58 (X + 48 + k) = 0 ∨ t 58 (X + 48 + k) = 1)) ∧
  s p 14 = t 58 (X + 72) ∧ s p 15 = t 58 (X + 73) ∧ 0 ≤ t 58 (X + 73) ∧
  (∀ j k, j < D → k < D → t 58 (X + 40 + j) = t 58 (X + 40 + k) → j = k ∨ t 58 (X + 40 + j) = -1)
theorem PR.congr {s s' t t' : zmem} {p X D Y : Nat} (h : PR s p t X D Y) (h1 : ∀ c, c < 10 → s' (p + c) = s (p + c)) (h2 : ∀ j, j < 100 → t' 58 (X + j) = t 58 (X + j)) (h3 : t' 63 = t 63) (hD : D ≤ 7) (hY : Y ≤ 8) : PR s' p t' X D Y := by
  obtain ⟨g1, g2, g3, g4, g5, g6, g7⟩ := h
  have e0 : s' p = s p := h1 0 (by decide)
  refine ⟨fun c hc k hk => ?_, fun k hk => ?_, fun k hk => ?_, ?_, ?_, ?_, fun j k hj hk => ?_⟩
  · have hk8 : k < 8 := by unfold colN at hk; split at hk <;> omega
    have := (colO_rng hc hk8).1
    rw [h1 c (by rcases hc with rfl | rfl | rfl | rfl | rfl | rfl | rfl | rfl <;> decide), Nat.add_assoc, h2 _ (by omega), ← Nat.add_assoc]
    exact g1 c hc k hk
  · rw [h1 4 (by decide), h3]; exact g2 k hk
  · rw [e0, Nat.add_assoc, h2 _ (by omega), ← Nat.add_assoc]; exact g3 k hk
  · rw [e0, h2 _ (by omega)]; exact g4
  · rw [e0, h2 _ (by omega)]; exact g5
  · rw [h2 _ (by omega)]; exact g6
  · rw [Nat.add_assoc, h2 _ (by omega), Nat.add_assoc X 40 k, h2 _ (by omega), ← Nat.add_assoc, ← Nat.add_assoc]; exact g7 j k hj hk
theorem colN8 {c k D Y : Nat} (hD : D ≤ 7) (hY : Y ≤ 8) (hk : k < colN c D Y) : k < 8 := by unfold colN at hk; split at hk <;> omega
/-- one value of a column anew (not the yards) -/
theorem PR.set {s t : zmem} {p X D Y c k : Nat} {v : Int32} (h : PR s p t X D Y) (hD : D ≤ 7) (hY : Y ≤ 8) (hc : colok c) (h7 : c ≠ 7) (hk : k < colN c D Y) (hv : colP c D Y v) : PR (mset s (p + c) k v) p (mset t 58 (X + colO c + k) v) X D Y := by
  obtain ⟨g1, g2, g3, g4, g5, g6, g7⟩ := h
  have hk8 := colN8 hD hY hk
  have hr := colO_rng hc hk8
  have hc0 : c ≠ 0 ∧ c ≠ 4 := by rcases hc with rfl | rfl | rfl | rfl | rfl | rfl | rfl | rfl <;> decide
  refine ⟨fun c' hc' k' hk' => ?_, fun k' hk' => ?_, fun k' hk' => ?_, ?_, ?_, ?_, fun j k' hj hk' => ?_⟩
  · have hk8' := colN8 hD hY hk'
    by_cases e : c' = c ∧ k' = k
    · obtain ⟨rfl, rfl⟩ := e
      rw [mset_eq, mset_eq]
      exact ⟨rfl, hv⟩
    · have e1 : ¬ (p + c' = p + c ∧ k' = k) := by omega
      have e2 : ¬ (58 = 58 ∧ X + colO c' + k' = X + colO c + k) := fun q => e (colO_inj hc' hc hk8' hk8 (by omega))
      rw [mset_ne _ e1, mset_ne _ e2]
      exact g1 c' hc' k' hk'
  · rw [mset_ne _ (show ¬ (p + 4 = p + c ∧ k' = k) by omega), mset_cell _ (by decide)]; exact g2 k' hk'
  · rw [mset_ne _ (show ¬ (p = p + c ∧ 13 = k) by omega), mset_ne _ (show ¬ (58 = 58 ∧ X + 48 + k' = X + colO c + k) by omega)]; exact g3 k' hk'
  · rw [mset_ne _ (show ¬ (p = p + c ∧ 14 = k) by omega), mset_ne _ (show ¬ (58 = 58 ∧ X + 72 = X + colO c + k) by omega)]; exact g4
  · rw [mset_ne _ (show ¬ (p = p + c ∧ 15 = k) by omega), mset_ne _ (show ¬ (58 = 58 ∧ X + 73 = X + colO c + k) by omega)]; exact g5
  · rw [mset_ne _ (show ¬ (58 = 58 ∧ X + 73 = X + colO c + k) by omega)]; exact g6
  · have f : ∀ i, i < D → ¬ (58 = 58 ∧ X + 40 + i = X + colO c + k) := fun i hi q => h7 (colO_inj (c := c) (c' := 7) hc (Or.inr (Or.inr (Or.inr (Or.inr (Or.inr (Or.inl rfl)))))) hk8 (show i < 8 by omega) (by show colO c + k = 40 + i; omega)).1
    rw [mset_ne _ (f j hj), mset_ne _ (f k' hk')]
    exact g7 j k' hj hk'
/-- a yard for one who has none -/
theorem PR.setY {s t : zmem} {p X D Y k i : Nat} (h : PR s p t X D Y) (hD : D ≤ 7) (hY : Y ≤ 8) (hk : k < D) (hi : i < Y) (hf : ∀ j, j < D → ¬ t 58 (X + 40 + j) = Int32.ofNat i) : PR (mset s (p + 7) k (Int32.ofNat i)) p (mset t 58 (X + 40 + k) (Int32.ofNat i)) X D Y := by
  obtain ⟨g1, g2, g3, g4, g5, g6, g7⟩ := h
  have hk8 : k < 8 := by omega
  have c7 : colok 7 := Or.inr (Or.inr (Or.inr (Or.inr (Or.inr (Or.inl rfl)))))
  refine ⟨fun c' hc' k' hk' => ?_, fun k' hk' => ?_, fun k' hk' => ?_, ?_, ?_, ?_, fun j k' hj hk' => ?_⟩
  · have hk8' := colN8 hD hY hk'
    by_cases e : c' = 7 ∧ k' = k
    · obtain ⟨rfl, rfl⟩ := e
      rw [mset_eq, show X + colO 7 + k' = X + 40 + k' from rfl, mset_eq]
      exact ⟨rfl, Or.inr ⟨i, hi, rfl⟩⟩
    · have e1 : ¬ (p + c' = p + 7 ∧ k' = k) := by omega
      have e2 : ¬ (58 = 58 ∧ X + colO c' + k' = X + 40 + k) := fun q => e (colO_inj hc' c7 hk8' hk8 (by show colO c' + k' = 40 + k; omega))
      rw [mset_ne _ e1, mset_ne _ e2]
      exact g1 c' hc' k' hk'
  · rw [mset_ne _ (show ¬ (p + 4 = p + 7 ∧ k' = k) by omega), mset_cell _ (by decide)]; exact g2 k' hk'
  · rw [mset_ne _ (show ¬ (p = p + 7 ∧ 13 = k) by omega), mset_ne _ (show ¬ (58 = 58 ∧ X + 48 + k' = X + 40 + k) by omega)]; exact g3 k' hk'
  · rw [mset_ne _ (show ¬ (p = p + 7 ∧ 14 = k) by omega), mset_ne _ (show ¬ (58 = 58 ∧ X + 72 = X + 40 + k) by omega)]; exact g4
  · rw [mset_ne _ (show ¬ (p = p + 7 ∧ 15 = k) by omega), mset_ne _ (show ¬ (58 = 58 ∧ X + 73 = X + 40 + k) by omega)]; exact g5
  · rw [mset_ne _ (show ¬ (58 = 58 ∧ X + 73 = X + 40 + k) by omega)]; exact g6
  · by_cases ej : j = k
    · by_cases ek : k' = k
      · exact fun _ => Or.inl (ej.trans ek.symm)
      · subst ej
        rw [mset_eq, mset_ne _ (show ¬ (58 = 58 ∧ X + 40 + k' = X + 40 + j) by omega)]
        exact fun q => absurd q.symm (hf k' hk')
    · rw [mset_ne _ (show ¬ (58 = 58 ∧ X + 40 + j = X + 40 + k) by omega)]
      by_cases ek : k' = k
      · subst ek
        rw [mset_eq]
        exact fun q => absurd q (hf j hj)
      · rw [mset_ne _ (show ¬ (58 = 58 ∧ X + 40 + k' = X + 40 + k) by omega)]
        exact g7 j k' hj hk'
/-- hours, chance, knocks anew -/
theorem PR.setH {s t : zmem} {p X D Y : Nat} {v : Int32} (h : PR s p t X D Y) (hD : D ≤ 7) (hY : Y ≤ 8) : PR (mset s p 14 v) p (mset t 58 (X + 72) v) X D Y := by
  obtain ⟨g1, g2, g3, g4, g5, g6, g7⟩ := h
  refine ⟨fun c' hc' k' hk' => ?_, fun k' hk' => ?_, fun k' hk' => ?_, ?_, ?_, ?_, fun j k' hj hk' => ?_⟩
  · have hr := colO_rng hc' (colN8 hD hY hk')
    have hc0 : c' ≠ 0 := by rcases hc' with rfl | rfl | rfl | rfl | rfl | rfl | rfl | rfl <;> decide
    rw [mset_ne _ (show ¬ (p + c' = p ∧ k' = 14) by omega), mset_ne _ (show ¬ (58 = 58 ∧ X + colO c' + k' = X + 72) by omega)]
    exact g1 c' hc' k' hk'
  · rw [mset_ne _ (show ¬ (p + 4 = p ∧ k' = 14) by omega), mset_cell _ (by decide)]; exact g2 k' hk'
  · rw [mset_ne _ (show ¬ (p = p ∧ 13 = 14) by omega), mset_ne _ (show ¬ (58 = 58 ∧ X + 48 + k' = X + 72) by omega)]; exact g3 k' hk'
  · rw [mset_eq, mset_eq]
  · rw [mset_ne _ (show ¬ (p = p ∧ 15 = 14) by omega), mset_ne _ (show ¬ (58 = 58 ∧ X + 73 = X + 72) by omega)]; exact g5
  · rw [mset_ne _ (show ¬ (58 = 58 ∧ X + 73 = X + 72) by omega)]; exact g6
  · rw [mset_ne _ (show ¬ (58 = 58 ∧ X + 40 + j = X + 72) by omega), mset_ne _ (show ¬ (58 = 58 ∧ X + 40 + k' = X + 72) by omega)]; exact g7 j k' hj hk'
theorem PR.setC {s t : zmem} {p X D Y : Nat} {v : Int32} (h : PR s p t X D Y) (hv : 0 ≤ v) (hD : D ≤ 7) (hY : Y ≤ 8) : PR (mset s p 15 v) p (mset t 58 (X + 73) v) X D Y := by
  obtain ⟨g1, g2, g3, g4, g5, g6, g7⟩ := h
  refine ⟨fun c' hc' k' hk' => ?_, fun k' hk' => ?_, fun k' hk' => ?_, ?_, ?_, ?_, fun j k' hj hk' => ?_⟩
  · have hr := colO_rng hc' (colN8 hD hY hk')
    have hc0 : c' ≠ 0 := by rcases hc' with rfl | rfl | rfl | rfl | rfl | rfl | rfl | rfl <;> decide
    rw [mset_ne _ (show ¬ (p + c' = p ∧ k' = 15) by omega), mset_ne _ (show ¬ (58 = 58 ∧ X + colO c' + k' = X + 73) by omega)]
    exact g1 c' hc' k' hk'
  · rw [mset_ne _ (show ¬ (p + 4 = p ∧ k' = 15) by omega), mset_cell _ (by decide)]; exact g2 k' hk'
  · rw [mset_ne _ (show ¬ (p = p ∧ 13 = 15) by omega), mset_ne _ (show ¬ (58 = 58 ∧ X + 48 + k' = X + 73) by omega)]; exact g3 k' hk'
  · rw [mset_ne _ (show ¬ (p = p ∧ 14 = 15) by omega), mset_ne _ (show ¬ (58 = 58 ∧ X + 72 = X + 73) by omega)]; exact g4
  · rw [mset_eq, mset_eq]
  · rw [mset_eq]; exact hv
  · rw [mset_ne _ (show ¬ (58 = 58 ∧ X + 40 + j = X + 73) by omega), mset_ne _ (show ¬ (58 = 58 ∧ X + 40 + k' = X + 73) by omega)]; exact g7 j k' hj hk'
theorem PR.setK {s t : zmem} {p X D Y k : Nat} (h : PR s p t X D Y) (hD : D ≤ 7) (hY : Y ≤ 8) (hk : k < D) : PR (mset s p 13 (s p 13 ||| sbit (Int32.ofNat k))) p (mset t 58 (X + 48 + k) 1) X D Y := by
  obtain ⟨g1, g2, g3, g4, g5, g6, g7⟩ := h
  refine ⟨fun c' hc' k' hk' => ?_, fun k' hk' => ?_, fun k' hk' => ?_, ?_, ?_, ?_, fun j k' hj hk' => ?_⟩
  · have hr := colO_rng hc' (colN8 hD hY hk')
    have hc0 : c' ≠ 0 := by rcases hc' with rfl | rfl | rfl | rfl | rfl | rfl | rfl | rfl <;> decide
    rw [mset_ne _ (show ¬ (p + c' = p ∧ k' = 13) by omega), mset_ne _ (show ¬ (58 = 58 ∧ X + colO c' + k' = X + 48 + k) by omega)]
    exact g1 c' hc' k' hk'
  · rw [mset_ne _ (show ¬ (p + 4 = p ∧ k' = 13) by omega), mset_cell _ (by decide)]; exact g2 k' hk'
  · rw [mset_eq, bt_or, bt_sbit (by omega) (by omega), (g3 k' hk').1]
    by_cases e : k' = k
    · subst e; rw [mset_eq]; exact ⟨by simp, Or.inr rfl⟩
    · rw [mset_ne _ (show ¬ (58 = 58 ∧ X + 48 + k' = X + 48 + k) by omega)]
      exact ⟨by simp [Ne.symm e], (g3 k' hk').2⟩
  · rw [mset_ne _ (show ¬ (p = p ∧ 14 = 13) by omega), mset_ne _ (show ¬ (58 = 58 ∧ X + 72 = X + 48 + k) by omega)]; exact g4
  · rw [mset_ne _ (show ¬ (p = p ∧ 15 = 13) by omega), mset_ne _ (show ¬ (58 = 58 ∧ X + 73 = X + 48 + k) by omega)]; exact g5
  · rw [mset_ne _ (show ¬ (58 = 58 ∧ X + 73 = X + 48 + k) by omega)]; exact g6
  · rw [mset_ne _ (show ¬ (58 = 58 ∧ X + 40 + j = X + 48 + k) by omega), mset_ne _ (show ¬ (58 = 58 ∧ X + 40 + k' = X + 48 + k) by omega)]; exact g7 j k' hj hk'
/-! what both read off a row -/
theorem c7k : colok 7 := Or.inr (Or.inr (Or.inr (Or.inr (Or.inr (Or.inl rfl)))))
section QR
variable {s t : zmem} {p X D Y : Nat}
theorem PR.frost (h : PR s p t X D Y) (hY : Y ≤ 8) {k : Nat} (hk : k < Y) : aat 8 (s (p + 1)) (Int32.ofNat k) = wt t X 0 (Int32.ofNat k) := by
  rw [aat_k (by omega) (by decide), wt_k (by omega)]; exact (h.1 1 (Or.inl rfl) k hk).1
theorem PR.rank (h : PR s p t X D Y) (hD : D ≤ 7) {k : Nat} (hk : k < D) : aat 7 (s (p + 2)) (Int32.ofNat k) = wt t X 8 (Int32.ofNat k) := by
  rw [aat_k (by omega) (by decide), wt_k (by omega)]; exact (h.1 2 (Or.inr (Or.inl rfl)) k hk).1
theorem PR.waited (h : PR s p t X D Y) (hD : D ≤ 7) {k : Nat} (hk : k < D) : aat 7 (s (p + 3)) (Int32.ofNat k) = wt t X 16 (Int32.ofNat k) := by
  rw [aat_k (by omega) (by decide), wt_k (by omega)]; exact (h.1 3 (Or.inr (Or.inr (Or.inl rfl))) k hk).1
theorem PR.kin (h : PR s p t X D Y) (hD : D ≤ 7) {k : Nat} (hk : k < D) : aat 7 (s (p + 4)) (Int32.ofNat k) = t 63 k := by
  rw [aat_k (by omega) (by decide)]; exact (h.2.1 k hk).1
theorem PR.gifts (h : PR s p t X D Y) (hD : D ≤ 7) {k : Nat} (hk : k < D) : aat 7 (s (p + 5)) (Int32.ofNat k) = wt t X 24 (Int32.ofNat k) := by
  rw [aat_k (by omega) (by decide), wt_k (by omega)]; exact (h.1 5 (Or.inr (Or.inr (Or.inr (Or.inl rfl)))) k hk).1
theorem PR.boards (h : PR s p t X D Y) (hD : D ≤ 7) {k : Nat} (hk : k < D) : aat 7 (s (p + 6)) (Int32.ofNat k) = wt t X 32 (Int32.ofNat k) := by
  rw [aat_k (by omega) (by decide), wt_k (by omega)]; exact (h.1 6 (Or.inr (Or.inr (Or.inr (Or.inr (Or.inl rfl))))) k hk).1
theorem PR.yard (h : PR s p t X D Y) (hD : D ≤ 7) {k : Nat} (hk : k < D) : aat 7 (s (p + 7)) (Int32.ofNat k) = wt t X 40 (Int32.ofNat k) := by
  rw [aat_k (by omega) (by decide), wt_k (by omega)]; exact (h.1 7 c7k k hk).1
theorem PR.label (h : PR s p t X D Y) (hD : D ≤ 7) {k : Nat} (hk : k < D) : aat 7 (s (p + 8)) (Int32.ofNat k) = wt t X 56 (Int32.ofNat k) := by
  rw [aat_k (by omega) (by decide), wt_k (by omega)]; exact (h.1 8 (Or.inr (Or.inr (Or.inr (Or.inr (Or.inr (Or.inr (Or.inl rfl))))))) k hk).1
theorem PR.marks (h : PR s p t X D Y) (hD : D ≤ 7) {k : Nat} (hk : k < D) : aat 7 (s (p + 9)) (Int32.ofNat k) = wt t X 64 (Int32.ofNat k) := by
  rw [aat_k (by omega) (by decide), wt_k (by omega)]; exact (h.1 9 (Or.inr (Or.inr (Or.inr (Or.inr (Or.inr (Or.inr (Or.inr rfl))))))) k hk).1
theorem PR.yv (h : PR s p t X D Y) (hD : D ≤ 7) {k : Nat} (hk : k < D) : wt t X 40 (Int32.ofNat k) = -1 ∨ ∃ i, i < Y ∧ wt t X 40 (Int32.ofNat k) = Int32.ofNat i := by
  rw [wt_k (by omega)]; exact (h.1 7 c7k k hk).2
theorem PR.y0 (h : PR s p t X D Y) (hD : D ≤ 7) (hY : Y ≤ 8) {k : Nat} (hk : k < D) : 0 ≤ wt t X 40 (Int32.ofNat k) ↔ ¬ wt t X 40 (Int32.ofNat k) = -1 := by
  rcases h.yv hD hk with e | ⟨i, hi, e⟩
  · rw [e]; decide
  · rw [e]
    have : ∀ i, i < 8 → (0 ≤ Int32.ofNat i ↔ ¬ Int32.ofNat i = -1) := by decide +kernel
    exact this i (by omega)
theorem PR.yn (h : PR s p t X D Y) (hD : D ≤ 7) (hY : Y ≤ 8) {k : Nat} (hk : k < D) : wt t X 40 (Int32.ofNat k) < 0 ↔ wt t X 40 (Int32.ofNat k) = -1 := by
  rcases h.yv hD hk with e | ⟨i, hi, e⟩
  · rw [e]; decide
  · rw [e]
    have : ∀ i, i < 8 → (Int32.ofNat i < 0 ↔ Int32.ofNat i = -1) := by decide +kernel
    exact this i (by omega)
theorem PR.knock (h : PR s p t X D Y) (hD : D ≤ 7) {k : Nat} (hk : k < D) : bt (s p 13) k = decide (¬ wt t X 48 (Int32.ofNat k) = 0) := by
  rw [wt_k (by omega)]; exact (h.2.2.1 k hk).1
/-- who waits in the loft -/
def inl (t : zmem) (X k : Nat) : Bool := decide (wt t X 40 (Int32.ofNat k) = -1) && decide (wt t X 48 (Int32.ofNat k) = 0)
theorem PR.lf (h : PR s p t X D Y) (hD : D ≤ 7) (hY : Y ≤ 8) {k : Nat} (hk : k < D) : rlf t X (Int32.ofNat k) = if inl t X k = true then 1 else 0 := by
  unfold rlf inl
  have h1 := h.y0 hD hY hk
  by_cases e : wt t X 40 (Int32.ofNat k) = -1
  · rw [if_neg (fun q => (h1.mp q) e)]
    by_cases e2 : wt t X 48 (Int32.ofNat k) = 0
    · rw [if_neg (fun q => q e2)]; simp [e, e2]
    · rw [if_pos e2]; simp [e2]
  · rw [if_pos (h1.mpr e)]; simp [e]
theorem bt_slaid (h : PR s p t X D Y) (hD : D ≤ 7) {j : Nat} (hj : j < 32) : bt (slaid s p D) j = (decide (j < D) && !decide (wt t X 40 (Int32.ofNat j) = -1)) := by
  unfold slaid
  rw [sfold_bt (b := D) (c := fun k => !decide (wt t X 40 (Int32.ofNat k) = -1)) (fun k s' j hk hj => ?_) D 0 0 j (by omega) hj, bt_zero]
  · simp
  · rw [h.yard hD hk]
    by_cases e : wt t X 40 (Int32.ofNat k) = -1
    · rw [if_pos e]; simp [e]
    · rw [if_neg e, bt_or, bt_sbit (by omega) hj]; simp [e]
theorem bt_rlaid (h : PR s p t X D Y) (hD : D ≤ 7) (hY : Y ≤ 8) {j : Nat} (hj : j < 32) : bt (rlaid t X D) j = (decide (j < D) && !decide (wt t X 40 (Int32.ofNat j) = -1)) := by
  unfold rlaid
  rw [sfold_bt (b := D) (c := fun k => !decide (wt t X 40 (Int32.ofNat k) = -1)) (fun k s' j hk hj => ?_) D 0 0 j (by omega) hj, bt_zero]
  · simp
  · unfold rldf
    have h1 := h.yn hD hY hk
    rw [bt_or, bt_c01 (b := !decide (wt t X 40 (Int32.ofNat k) = -1)) ?_ (by omega) hj]
    by_cases e : wt t X 40 (Int32.ofNat k) = -1
    · rw [if_pos (h1.mpr e)]; simp [e]
    · rw [if_neg (fun q => e (h1.mp q))]; simp [e]
theorem laid_eq (h : PR s p t X D Y) (hD : D ≤ 7) (hY : Y ≤ 8) : slaid s p D = rlaid t X D := bt_ext fun j hj => by rw [bt_slaid h hD hj, bt_rlaid h hD hY hj]
theorem bt_swait (h : PR s p t X D Y) (hp : s p 1 = Int32.ofNat D) (hD : D ≤ 7) {j : Nat} (hj : j < 32) : bt (swait s p D) j = (decide (j < D) && inl t X j) := by
  unfold swait
  rw [hp, bt_and, bt_and, bt_not _ hj, bt_not _ hj, bt_all D (by omega) j hj, bt_slaid h hD hj]
  by_cases e : j < D
  · rw [h.knock hD e]
    unfold inl
    simp [e]
  · simp [e]
theorem bt_rloft (h : PR s p t X D Y) (hD : D ≤ 7) (hY : Y ≤ 8) {j : Nat} (hj : j < 32) : bt (rloft t X D) j = (decide (j < D) && inl t X j) := by
  unfold rloft
  rw [sfold_bt (b := D) (c := fun k => inl t X k) (fun k s' j hk hj => ?_) D 0 0 j (by omega) hj, bt_zero]
  · simp
  · rw [bt_or, bt_c01 (h.lf hD hY hk) (by omega) hj]
theorem wait_eq (h : PR s p t X D Y) (hp : s p 1 = Int32.ofNat D) (hD : D ≤ 7) (hY : Y ≤ 8) : swait s p D = rloft t X D := bt_ext fun j hj => by rw [bt_swait h hp hD hj, bt_rloft h hD hY hj]
/-- waits: as the class and as the reference ask -/
theorem has_wait (h : PR s p t X D Y) (hp : s p 1 = Int32.ofNat D) (hD : D ≤ 7) {k : Nat} (hk : k < D) : shas (swait s p D) (Int32.ofNat k) = if inl t X k = true then 1 else 0 := by
  rw [shas_bt _ (by omega), bt_swait h hp hD (by omega)]
  simp [hk]
theorem wait_lf (h : PR s p t X D Y) (hp : s p 1 = Int32.ofNat D) (hD : D ≤ 7) (hY : Y ≤ 8) {k : Nat} (hk : k < D) : shas (swait s p D) (Int32.ofNat k) = rlf t X (Int32.ofNat k) := by rw [has_wait h hp hD hk, h.lf hD hY hk]
theorem who_eq (h : PR s p t X D Y) (hD : D ≤ 7) (i : Int32) : swho s p D i = rwho t X D i := by
  unfold swho rwho
  refine sfind_congr D 0 (fun k _ hk => ?_)
  rw [h.yard hD (show k < D by omega)]
theorem sfind_pos {c : Nat → Bool} : ∀ n k, k + n < 2147483648 → (0 ≤ sfind c n k ↔ ∃ i, k ≤ i ∧ i < k + n ∧ c i = true) := by
  intro n
  induction n with
  | zero =>
    intro k _
    constructor
    · intro h; exact absurd h (by show ¬ (0 : Int32) ≤ -1; decide)
    · intro ⟨i, h1, h2, _⟩; omega
  | succ n ih =>
    intro k hk
    show 0 ≤ (if c k = true then Int32.ofNat k else sfind c n (k + 1)) ↔ _
    by_cases e : c k = true
    · rw [if_pos e]
      constructor
      · intro _; exact ⟨k, Nat.le_refl _, by omega, e⟩
      · intro _; exact Int32.not_lt.mp (n_lt0 (by omega))
    · rw [if_neg e, ih (k + 1) (by omega)]
      constructor
      · intro ⟨i, h1, h2, h3⟩; exact ⟨i, by omega, by omega, h3⟩
      · intro ⟨i, h1, h2, h3⟩
        refine ⟨i, ?_, by omega, h3⟩
        by_cases q : i = k
        · subst q; exact absurd h3 e
        · omega
theorem or_fold {g : Nat → Int32} (j : Nat) : ∀ n k s, bt (sfold (fun k s => s ||| g k) n k s) j = true ↔ (bt s j = true ∨ ∃ i, k ≤ i ∧ i < k + n ∧ bt (g i) j = true) := by
  intro n
  induction n with
  | zero =>
    intro k s
    constructor
    · intro h; exact Or.inl h
    · intro h
      rcases h with h | ⟨i, h1, h2, _⟩
      · exact h
      · omega
  | succ n ih =>
    intro k s
    show bt (sfold _ n (k + 1) (s ||| g k)) j = true ↔ _
    rw [ih (k + 1), bt_or, Bool.or_eq_true]
    constructor
    · intro h
      rcases h with (h | h) | ⟨i, h1, h2, h3⟩
      · exact Or.inl h
      · exact Or.inr ⟨k, Nat.le_refl _, by omega, h⟩
      · exact Or.inr ⟨i, by omega, by omega, h3⟩
    · intro h
      rcases h with h | ⟨i, h1, h2, h3⟩
      · exact Or.inl (Or.inl h)
      · by_cases q : i = k
        · subst q; exact Or.inl (Or.inr h3)
        · exact Or.inr ⟨i, by omega, by omega, h3⟩
theorem sbit_neg : sbit (-1) = 0 := by decide
theorem bt_taken (h : PR s p t X D Y) (hD : D ≤ 7) (hY : Y ≤ 8) {i : Nat} (hi : i < 31) : bt (staken s p D) i = true ↔ ∃ k, k < D ∧ wt t X 40 (Int32.ofNat k) = Int32.ofNat i := by
  unfold staken
  rw [or_fold, bt_zero]
  constructor
  · intro q
    rcases q with q | ⟨k, _, hk, q⟩
    · cases q
    · have hk : k < D := by omega
      rw [h.yard hD hk] at q
      rcases h.yv hD hk with e | ⟨i', hi', e⟩
      · rw [e, sbit_neg, bt_zero] at q; cases q
      · rw [e, bt_sbit (by omega) (by omega)] at q
        exact ⟨k, hk, by rw [e, of_decide_eq_true q]⟩
  · intro ⟨k, hk, e⟩
    refine Or.inr ⟨k, Nat.zero_le _, by omega, ?_⟩
    rw [h.yard hD hk, e, bt_sbit (by omega) (by omega)]
    simp
theorem who_pos (t : zmem) (X : Nat) {D : Nat} (hD : D ≤ 7) (i : Int32) : 0 ≤ rwho t X D i ↔ ∃ k, k < D ∧ wt t X 40 (Int32.ofNat k) = i := by
  unfold rwho
  rw [sfind_pos D 0 (by omega)]
  constructor
  · intro ⟨k, _, hk, e⟩; exact ⟨k, by omega, of_decide_eq_true e⟩
  · intro ⟨k, hk, e⟩; exact ⟨k, Nat.zero_le _, by omega, decide_eq_true e⟩
theorem taken_who (h : PR s p t X D Y) (hD : D ≤ 7) (hY : Y ≤ 8) {i : Nat} (hi : i < 31) : ¬ shas (staken s p D) (Int32.ofNat i) = 0 ↔ 0 ≤ rwho t X D (Int32.ofNat i) := by
  rw [who_pos t X hD, ← bt_taken h hD hY hi, shas_bt _ hi]
  by_cases e : bt (staken s p D) i = true <;> simp [e]
theorem bt_ssoft (h : PR s p t X D Y) (hY : Y ≤ 8) {j : Nat} (hj : j < 32) : bt (ssoft s p Y) j = (decide (j < Y) && decide (wt t X 0 (Int32.ofNat j) = 0)) := by
  unfold ssoft
  rw [sfold_bt (b := Y) (c := fun k => decide (wt t X 0 (Int32.ofNat k) = 0)) (fun k s' j hk hj => ?_) Y 0 0 j (by omega) hj, bt_zero]
  · simp
  · rw [h.frost hY hk]
    by_cases e : wt t X 0 (Int32.ofNat k) = 0
    · rw [if_pos e, bt_or, bt_sbit (by omega) hj]; simp [e]
    · rw [if_neg e]; simp [e]
theorem soft_eq (h : PR s p t 0 D Y) (hY : Y ≤ 8) : ssoft s p Y = rsoft t Y := bt_ext fun j hj => by
  rw [bt_ssoft h hY hj]
  unfold rsoft
  rw [sfold_bt (b := Y) (c := fun k => decide (wt t 0 0 (Int32.ofNat k) = 0)) (fun k s' j hk hj => ?_) Y 0 0 j (by omega) hj, bt_zero]
  · simp
  · rw [bt_or, bt_c01 (b := decide (wt t 0 0 (Int32.ofNat k) = 0)) ?_ (by omega) hj]
    by_cases e : wt t 0 0 (Int32.ofNat k) = 0 <;> simp [e]
theorem bless_eq (h : PR s p t 0 D Y) (hp : s p 1 = Int32.ofNat D) (hD : D ≤ 7) (hY : Y ≤ 8) : sbless s p D = rbl t D := bt_ext fun j hj => by
  unfold sbless
  rw [bt_and, bt_swait h hp hD hj, sfold_bt (b := D) (c := fun k => decide (wt t 0 32 (Int32.ofNat k) = 0)) (fun k s' j hk hj => ?_) D 0 0 j (by omega) hj, bt_zero]
  · unfold rbl
    rw [sfold_bt (b := D) (c := fun k => inl t 0 k && decide (wt t 0 32 (Int32.ofNat k) = 0)) (fun k s' j hk hj => ?_) D 0 0 j (by omega) hj, bt_zero]
    · by_cases e : j < D
      · simp [e, Bool.and_comm]
      · simp [e]
    · unfold rblf
      rw [bt_or, bt_c01 (b := inl t 0 k && decide (wt t 0 32 (Int32.ofNat k) = 0)) ?_ (by omega) hj]
      rw [h.lf hD hY hk]
      by_cases e1 : inl t 0 k = true <;> by_cases e2 : wt t 0 32 (Int32.ofNat k) = 0 <;> simp [e1, e2]
  · rw [h.boards hD hk]
    by_cases e : wt t 0 32 (Int32.ofNat k) = 0
    · rw [if_pos e, bt_or, bt_sbit (by omega) hj]; simp [e]
    · rw [if_neg e]; simp [e]
end QR
/-! the order of custom -/
theorem n_sub {a b : Nat} (ha : a < 1000000000) (hb : b < 1000000000) : (Int32.ofNat a - Int32.ofNat b).toInt = (a : Int) - b := by
  rw [Int32.toInt_sub, i32 (by omega), i32 (by omega), Int.bmod_def]
  split <;> omega
theorem n_sub0 {a b : Nat} (ha : a < 1000000000) (hb : b < 1000000000) : Int32.ofNat a - Int32.ofNat b = 0 ↔ a = b := by
  rw [← Int32.toInt_inj, n_sub ha hb]
  show (a : Int) - b = 0 ↔ _
  omega
theorem n_suble {a b : Nat} (ha : a < 1000000000) (hb : b < 1000000000) : Int32.ofNat a - Int32.ofNat b ≤ 0 ↔ a ≤ b := by
  rw [Int32.le_iff_toInt_le, n_sub ha hb]
  show (a : Int) - b ≤ 0 ↔ _
  omega
/-- a value in bounds is a number -/
theorem nat_of {v : Int32} {n : Nat} (hn : n < 2147483648) (h0 : 0 ≤ v) (h1 : v ≤ Int32.ofNat n) : ∃ a, a ≤ n ∧ v = Int32.ofNat a := by
  have e1 : (0 : Int) ≤ v.toInt := by simpa using Int32.le_iff_toInt_le.mp h0
  have e2 : v.toInt ≤ n := by
    have := Int32.le_iff_toInt_le.mp h1
    rw [i32 hn] at this
    exact this
  refine ⟨v.toInt.toNat, by omega, ?_⟩
  rw [← Int32.toInt_inj, i32 (by omega)]
  omega
/-- what custom counts of the dead k by the clause c: class and reference -/
theorem worth_ex {s t : zmem} {p X D Y : Nat} (h : PR s p t X D Y) (hD : D ≤ 7) {c : Nat} (hc : c < 4) {a b : Nat} (ha : a < D) (hb : b < D) : ∃ na nb, na ≤ 9999 ∧ nb ≤ 9999 ∧ sworth s p (Int32.ofNat c) (Int32.ofNat a) = Int32.ofNat na ∧ sworth s p (Int32.ofNat c) (Int32.ofNat b) = Int32.ofNat nb ∧ (rval t X (Int32.ofNat c) (Int32.ofNat a) - rval t X (Int32.ofNat c) (Int32.ofNat b) = 0 ↔ na = nb) ∧ (rval t X (Int32.ofNat c) (Int32.ofNat a) - rval t X (Int32.ofNat c) (Int32.ofNat b) ≤ 0 ↔ na ≤ nb) := by
  have col : ∀ o, (∀ k, k < D → ∃ n, n ≤ 9999 ∧ wt t X o (Int32.ofNat k) = Int32.ofNat n) → ∃ na nb, na ≤ 9999 ∧ nb ≤ 9999 ∧ wt t X o (Int32.ofNat a) = Int32.ofNat na ∧ wt t X o (Int32.ofNat b) = Int32.ofNat nb ∧ (wt t X o (Int32.ofNat a) - wt t X o (Int32.ofNat b) = 0 ↔ na = nb) ∧ (wt t X o (Int32.ofNat a) - wt t X o (Int32.ofNat b) ≤ 0 ↔ na ≤ nb) := by
    intro o q
    obtain ⟨na, h1, e1⟩ := q a ha
    obtain ⟨nb, h2, e2⟩ := q b hb
    refine ⟨na, nb, h1, h2, e1, e2, ?_, ?_⟩
    · rw [e1, e2, n_sub0 (by omega) (by omega)]
    · rw [e1, e2, n_suble (by omega) (by omega)]
  match c, hc with
  | 0, _ =>
    obtain ⟨na, nb, h1, h2, e1, e2, e3, e4⟩ := col 8 (fun k hk => by
      have q := (h.1 2 (Or.inr (Or.inl rfl)) k hk).2
      rw [wt_k (by omega)]
      obtain ⟨n, hn, e⟩ := nat_of (n := 99) (by decide) q.1 q.2
      exact ⟨n, by omega, e⟩)
    exact ⟨na, nb, h1, h2, (h.rank hD ha).trans e1, (h.rank hD hb).trans e2, e3, e4⟩
  | 1, _ =>
    obtain ⟨na, nb, h1, h2, e1, e2, e3, e4⟩ := col 16 (fun k hk => by
      have q := (h.1 3 (Or.inr (Or.inr (Or.inl rfl))) k hk).2
      rw [wt_k (by omega)]
      exact nat_of (n := 9999) (by decide) q.1 q.2)
    exact ⟨na, nb, h1, h2, (h.waited hD ha).trans e1, (h.waited hD hb).trans e2, e3, e4⟩
  | 2, _ =>
    obtain ⟨na, nb, h1, h2, e1, e2, e3, e4⟩ := col 24 (fun k hk => by
      have q := (h.1 5 (Or.inr (Or.inr (Or.inr (Or.inl rfl)))) k hk).2
      rw [wt_k (by omega)]
      exact nat_of (n := 9999) (by decide) q.1 q.2)
    exact ⟨na, nb, h1, h2, (h.gifts hD ha).trans e1, (h.gifts hD hb).trans e2, e3, e4⟩
  | 3, _ =>
    have kn : ∀ k, k < D → ∃ n, n ≤ 9 ∧ t 63 k = Int32.ofNat n := fun k hk => nat_of (n := 9) (by decide) (h.2.1 k hk).2.1 (h.2.1 k hk).2.2
    obtain ⟨ka, h1, e1⟩ := kn a ha
    obtain ⟨kb, h2, e2⟩ := kn b hb
    have tab : ∀ x, x ≤ 9 → 9 - Int32.ofNat x = Int32.ofNat (9 - x) := fun x hx => by
      have : ∀ x, x < 10 → 9 - Int32.ofNat x = Int32.ofNat (9 - x) := by decide +kernel
      exact this x (by omega)
    have tab2 : ∀ x, x < 10 → ∀ y, y < 10 → ((0 - Int32.ofNat x) - (0 - Int32.ofNat y) = 0 ↔ 9 - x = 9 - y) ∧ ((0 - Int32.ofNat x) - (0 - Int32.ofNat y) ≤ 0 ↔ 9 - x ≤ 9 - y) := by decide +kernel
    have ra : ∀ k, k < D → rval t X (Int32.ofNat 3) (Int32.ofNat k) = 0 - t 63 k := fun k hk => by
      show 0 - t 63 (Int32.ofNat k).toNatClampNeg = _
      rw [natc (by omega)]
    refine ⟨9 - ka, 9 - kb, by omega, by omega, ?_, ?_, ?_, ?_⟩
    · show 9 - aat 7 (s (p + 4)) (Int32.ofNat a) = _
      rw [h.kin hD ha, e1, tab ka h1]
    · show 9 - aat 7 (s (p + 4)) (Int32.ofNat b) = _
      rw [h.kin hD hb, e2, tab kb h2]
    · rw [ra a ha, ra b hb, e1, e2]; exact (tab2 ka (by omega) kb (by omega)).1
    · rw [ra a ha, ra b hb, e1, e2]; exact (tab2 ka (by omega) kb (by omega)).2
  | n + 4, q => omega
/-- the clauses: class and reference -/
def CL (s t : zmem) (C : Nat) : Prop := ∀ k, k < C → s 4 k = t 65 k ∧ ∃ j, j < 4 ∧ t 65 k = Int32.ofNat j
def nf (w : Nat → Nat) (n k s : Nat) : Nat := sfold (fun k s => s * 10000 + w k) n k s
theorem nf_bd {w : Nat → Nat} (hw : ∀ k, w k ≤ 9999) : ∀ n k s, nf w n k s < (s + 1) * 10000 ^ n ∧ s * 10000 ^ n ≤ nf w n k s := by
  intro n
  induction n with
  | zero => intro k s; simp [nf, sfold]
  | succ n ih =>
    intro k s
    have h := ih (k + 1) (s * 10000 + w k)
    have hk := hw k
    show nf w n (k + 1) (s * 10000 + w k) < _ ∧ _ ≤ nf w n (k + 1) (s * 10000 + w k)
    rw [Nat.pow_succ]
    have h3 : (s * 10000 + w k + 1) * 10000 ^ n ≤ ((s + 1) * 10000) * 10000 ^ n := Nat.mul_le_mul_right _ (by omega)
    have h4 : (s * 10000) * 10000 ^ n ≤ (s * 10000 + w k) * 10000 ^ n := Nat.mul_le_mul_right _ (by omega)
    have h5 : (s + 1) * 10000 * 10000 ^ n = (s + 1) * (10000 ^ n * 10000) := by rw [Nat.mul_assoc, Nat.mul_comm 10000]
    have h6 : s * 10000 * 10000 ^ n = s * (10000 ^ n * 10000) := by rw [Nat.mul_assoc, Nat.mul_comm 10000]
    omega
theorem nf_lt {wa wb : Nat → Nat} (ha : ∀ k, wa k ≤ 9999) (hb : ∀ k, wb k ≤ 9999) (n k sa sb : Nat) (h : sa < sb) : nf wa n k sa < nf wb n k sb := by
  have h1 := (nf_bd ha n k sa).1
  have h2 := (nf_bd hb n k sb).2
  have h3 : (sa + 1) * 10000 ^ n ≤ sb * 10000 ^ n := Nat.mul_le_mul_right _ h
  omega
theorem nf_lex {t : zmem} {X a b : Nat} {wa wb : Nat → Nat} (ha : ∀ k, wa k ≤ 9999) (hb : ∀ k, wb k ≤ 9999) (hA : a < 2147483648) (hB : b < 2147483648) : ∀ n k s, (∀ i, k ≤ i → i < k + n → ((rvd t X (Int32.ofNat a) (Int32.ofNat b) i = 0 ↔ wa i = wb i) ∧ (rvd t X (Int32.ofNat a) (Int32.ofNat b) i ≤ 0 ↔ wa i ≤ wb i))) → (¬ rabc t X (Int32.ofNat a) (Int32.ofNat b) n k = 0 ↔ nf wb n k s < nf wa n k s ∨ (nf wb n k s = nf wa n k s ∧ a < b)) := by
  intro n
  induction n with
  | zero =>
    intro k s _
    show ¬ (if Int32.ofNat b ≤ Int32.ofNat a then (0 : Int32) else 1) = 0 ↔ s < s ∨ (s = s ∧ a < b)
    by_cases e : b ≤ a
    · rw [if_pos ((n_le hB hA).mpr e)]; simp; omega
    · rw [if_neg (fun q => e ((n_le hB hA).mp q))]; simp; omega
  | succ n ih =>
    intro k s h
    obtain ⟨h1, h2⟩ := h k (Nat.le_refl _) (by omega)
    show ¬ (if rvd t X (Int32.ofNat a) (Int32.ofNat b) k = 0 then rabc t X (Int32.ofNat a) (Int32.ofNat b) n (k + 1) else if rvd t X (Int32.ofNat a) (Int32.ofNat b) k ≤ 0 then (0 : Int32) else 1) = 0 ↔ nf wb n (k + 1) (s * 10000 + wb k) < nf wa n (k + 1) (s * 10000 + wa k) ∨ (nf wb n (k + 1) (s * 10000 + wb k) = nf wa n (k + 1) (s * 10000 + wa k) ∧ a < b)
    by_cases e : wa k = wb k
    · rw [if_pos (h1.mpr e), e]
      exact ih (k + 1) _ (fun i hi hj => h i (by omega) (by omega))
    · rw [if_neg (fun q => e (h1.mp q))]
      by_cases e2 : wa k ≤ wb k
      · rw [if_pos (h2.mpr e2)]
        have := nf_lt ha hb n (k + 1) (s * 10000 + wa k) (s * 10000 + wb k) (by omega)
        simp
        omega
      · rw [if_neg (fun q => e2 (h2.mp q))]
        have := nf_lt hb ha n (k + 1) (s * 10000 + wb k) (s * 10000 + wa k) (by omega)
        simp
        omega
theorem i64 {n : Nat} (h : n < 9223372036854775808) : (Int64.ofNat n).toInt = n := Int64.toInt_ofNat_of_lt (by omega)
theorem toI64 {n : Nat} (h : n < 2147483648) : (Int32.ofNat n).toInt64 = Int64.ofNat n := by
  rw [← Int64.toInt_inj, Int32.toInt_toInt64, i32 h, i64 (by omega)]
theorem cl_nf {f : Nat → Int32} {w : Nat → Nat} (hw : ∀ k, w k ≤ 9999) : ∀ n k sN, (∀ i, k ≤ i → i < k + n → f i = Int32.ofNat (w i)) → sfold (fun k s => s * 10000 + (f k).toInt64) n k (Int64.ofNat sN) = Int64.ofNat (nf w n k sN) := by
  intro n
  induction n with
  | zero => intro k sN _; rfl
  | succ n ih =>
    intro k sN h
    show sfold _ n (k + 1) (Int64.ofNat sN * 10000 + (f k).toInt64) = Int64.ofNat (nf w n (k + 1) (sN * 10000 + w k))
    have hk := hw k
    rw [h k (Nat.le_refl _) (by omega), toI64 (by omega)]
    have e : Int64.ofNat sN * 10000 + Int64.ofNat (w k) = Int64.ofNat (sN * 10000 + w k) := by
      rw [Int64.ofNat_add, Int64.ofNat_mul]
      rfl
    rw [e]
    exact ih (k + 1) _ (fun i h1 h2 => h i (by omega) (by omega))
theorem n64_le {a b : Nat} (ha : a < 9223372036854775808) (hb : b < 9223372036854775808) : Int64.ofNat a ≤ Int64.ofNat b ↔ a ≤ b := by
  rw [Int64.le_iff_toInt_le, i64 ha, i64 hb]
  omega
def wnq (s : zmem) (p C a i : Nat) : Nat := if i < C then (sworth s p (s 4 i) (Int32.ofNat a)).toNatClampNeg else 0
section QO
variable {s t : zmem} {p X D Y C : Nat}
theorem wnq_ex (h : PR s p t X D Y) (hD : D ≤ 7) (hc : CL s t C) {a b i : Nat} (ha : a < D) (hb : b < D) (hi : i < C) : sworth s p (s 4 i) (Int32.ofNat a) = Int32.ofNat (wnq s p C a i) ∧ wnq s p C a i ≤ 9999 ∧ (rvd t X (Int32.ofNat a) (Int32.ofNat b) i = 0 ↔ wnq s p C a i = wnq s p C b i) ∧ (rvd t X (Int32.ofNat a) (Int32.ofNat b) i ≤ 0 ↔ wnq s p C a i ≤ wnq s p C b i) := by
  obtain ⟨e1, j, hj, e2⟩ := hc i hi
  obtain ⟨na, nb, h1, h2, h3, h4, h5, h6⟩ := worth_ex h hD hj ha hb
  have ea : wnq s p C a i = na := by unfold wnq; rw [if_pos hi, e1, e2, h3, natc (by omega)]
  have eb : wnq s p C b i = nb := by unfold wnq; rw [if_pos hi, e1, e2, h4, natc (by omega)]
  rw [ea, eb]
  refine ⟨by rw [e1, e2, h3], h1, ?_, ?_⟩
  · unfold rvd; rw [e2]; exact h5
  · unfold rvd; rw [e2]; exact h6
theorem wnq_le (h : PR s p t X D Y) (hD : D ≤ 7) (hc : CL s t C) {a : Nat} (ha : a < D) (i : Nat) : wnq s p C a i ≤ 9999 := by
  by_cases hi : i < C
  · exact (wnq_ex h hD hc ha ha hi).2.1
  · unfold wnq; rw [if_neg hi]; omega
/-- the claim as a number -/
def cnq (s : zmem) (p C a : Nat) : Nat := nf (wnq s p C a) C 0 0 * 8 + 7 - a
theorem cnq_lt (h : PR s p t X D Y) (hD : D ≤ 7) (hc : CL s t C) (hC : C ≤ 4) {a : Nat} (ha : a < D) : cnq s p C a < 100000000000000000 := by
  have h1 := (nf_bd (wnq_le h hD hc ha) C 0 0).1
  have h2 : 10000 ^ C ≤ 10000 ^ 4 := Nat.pow_le_pow_right (by decide) hC
  have h3 : 10000 ^ 4 = 10000000000000000 := by decide
  unfold cnq
  omega
theorem claim_eq (h : PR s p t X D Y) (hD : D ≤ 7) (hc : CL s t C) (hC : C ≤ 4) {a : Nat} (ha : a < D) : sclaim s p 3 C (Int32.ofNat a) = Int64.ofNat (cnq s p C a) := by
  unfold sclaim cnq
  have e := cl_nf (f := fun k => sworth s p (s 4 k) (Int32.ofNat a)) (wnq_le h hD hc ha) C 0 0 (fun i _ hi => (wnq_ex h hD hc ha ha (by omega)).1)
  have e0 : sfold (fun k s' => s' * 10000 + (sworth s p (aat 4 (s (3 + 1)) (Int32.ofNat k)) (Int32.ofNat a)).toInt64) C 0 0 = sfold (fun k s' => s' * 10000 + (sworth s p (s 4 k) (Int32.ofNat a)).toInt64) C 0 (Int64.ofNat 0) := by
    refine sfold_congr C 0 _ (fun i s' _ hi => ?_)
    rw [aat_k (by omega) (by decide)]
  rw [e0, e, toI64 (by omega)]
  have e2 : Int64.ofNat (nf (wnq s p C a) C 0 0 * 8 + 7 - a) + Int64.ofNat a = Int64.ofNat (nf (wnq s p C a) C 0 0) * 8 + 7 := by
    rw [← Int64.ofNat_add, show nf (wnq s p C a) C 0 0 * 8 + 7 - a + a = nf (wnq s p C a) C 0 0 * 8 + 7 by omega, Int64.ofNat_add, Int64.ofNat_mul]
    rfl
  rw [← e2]
  grind
theorem claim_lt (h : PR s p t X D Y) (hD : D ≤ 7) (hc : CL s t C) (hC : C ≤ 4) {a b : Nat} (ha : a < D) (hb : b < D) : (¬ lg_cmp (sclaim s p 3 C (Int32.ofNat a)) (sclaim s p 3 C (Int32.ofNat b)) ≤ 0) ↔ ¬ rabc t X (Int32.ofNat a) (Int32.ofNat b) C 0 = 0 := by
  have h1 := cnq_lt h hD hc hC ha
  have h2 := cnq_lt h hD hc hC hb
  rw [claim_eq h hD hc hC ha, claim_eq h hD hc hC hb, lg_cmp_le, n64_le (by omega) (by omega), nf_lex (wnq_le h hD hc ha) (wnq_le h hD hc hb) (by omega) (by omega) C 0 0 (fun i _ hi => (wnq_ex h hD hc ha hb (by omega)).2.2)]
  unfold cnq
  omega
theorem bd_or (h : PR s p t X D Y) (hD : D ≤ 7) {a : Nat} (ha : a < D) : aat 7 (s (p + 6)) (Int32.ofNat a) = wt t X 32 (Int32.ofNat a) := h.boards hD ha
theorem urg_lt (h : PR s p t X D Y) (hD : D ≤ 7) (hc : CL s t C) (hC : C ≤ 4) {a b : Nat} (ha : a < D) (hb : b < D) : (¬ lg_cmp (surg s p 3 C (Int32.ofNat a)) (surg s p 3 C (Int32.ofNat b)) ≤ 0) ↔ ¬ rah t X C (Int32.ofNat a) (Int32.ofNat b) = 0 := by
  have h1 := cnq_lt h hD hc hC ha
  have h2 := cnq_lt h hD hc hC hb
  have k := claim_lt h hD hc hC ha hb
  rw [claim_eq h hD hc hC ha, claim_eq h hD hc hC hb, lg_cmp_le, n64_le (by omega) (by omega)] at k
  unfold surg rah
  rw [h.boards hD ha, h.boards hD hb, claim_eq h hD hc hC ha, claim_eq h hD hc hC hb]
  have e : ∀ n, Int64.ofNat n + 1000000000000000000 = Int64.ofNat (n + 1000000000000000000) := fun n => by rw [Int64.ofNat_add]; rfl
  by_cases ea : wt t X 32 (Int32.ofNat a) = 0 <;> by_cases eb : wt t X 32 (Int32.ofNat b) = 0
  · rw [if_pos ea, if_pos eb, if_pos ea, if_pos eb, lg_cmp_le, e, e, n64_le (by omega) (by omega), ← k]
    omega
  · rw [if_pos ea, if_neg eb, if_pos ea, if_neg eb, lg_cmp_le, e, n64_le (by omega) (by omega)]
    simp
    omega
  · rw [if_neg ea, if_pos eb, if_neg ea, if_pos eb, lg_cmp_le, e, n64_le (by omega) (by omega)]
    simp
    omega
  · rw [if_neg ea, if_neg eb, if_neg ea, if_neg eb, lg_cmp_le, n64_le (by omega) (by omega), ← k]
theorem place_eq (h : PR s p t X D Y) (hp : s p 1 = Int32.ofNat D) (hD : D ≤ 7) (hY : Y ≤ 8) (hc : CL s t C) (hC : C ≤ 4) {a : Nat} (ha : a < D) : splace s p 3 C D (swait s p D) (Int32.ofNat a) = rplace t X C D (Int32.ofNat a) := by
  unfold splace rplace
  refine sfold_congr D 0 _ (fun k st _ hk => ?_)
  have hk : k < D := by omega
  unfold rplc
  rw [wait_lf h hp hD hY hk]
  by_cases e0 : rlf t X (Int32.ofNat k) = 0
  · rw [if_pos e0, if_pos e0]
    by_cases e1 : Int32.ofNat k = Int32.ofNat a
    · rw [if_pos e1]; simp
    · rw [if_neg e1]; simp
  · rw [if_neg e0, if_neg e0]
    by_cases e1 : Int32.ofNat k = Int32.ofNat a
    · rw [if_pos e1, e1, if_pos ((lg_cmp_le _ _).mpr (Int64.le_refl _))]; simp
    · rw [if_neg e1]
      have u := urg_lt h hD hc hC hk ha
      by_cases e2 : rah t X C (Int32.ofNat k) (Int32.ofNat a) = 0
      · rw [if_pos e2, if_pos (Classical.byContradiction (fun q => (u.mp q) e2))]; simp
      · rw [if_neg e2, if_neg (u.mpr e2)]
theorem sfind_ext {c : Nat → Bool} {N : Nat} : ∀ n k, n ≤ N → (∀ i, k + n ≤ i → i < k + N → c i = false) → sfind c N k = sfind c n k := by
  induction N with
  | zero =>
    intro n k hn _
    have e : n = 0 := by omega
    subst e
    rfl
  | succ N ih =>
    intro n k hn h
    cases n with
    | zero =>
      show (if c k = true then _ else sfind c N (k + 1)) = -1
      rw [h k (by omega) (by omega), ih 0 (k + 1) (by omega) (fun i h1 h2 => h i (by omega) (by omega))]
      rfl
    | succ n =>
      show (if c k = true then _ else sfind c N (k + 1)) = (if c k = true then _ else sfind c n (k + 1))
      rw [ih n (k + 1) (by omega) (fun i h1 h2 => h i (by omega) (by omega))]
end QO
/-! the relation whole -/
def gC (q : Nat) : Bool := decide (q ≤ 4) || (decide (27 ≤ q) && decide (q < 50)) || decide (57 ≤ q)
def gR (q : Nat) : Bool := decide (q < 57) || decide (q = 59) || (decide (63 ≤ q) && decide (q ≤ 66)) || decide (q = 73) || decide (q = 74)
/-- only the parish now and scratch cells are written: class, reference -/
def FC (s s' : zmem) : Prop := (∀ q, gC q = true → s' q = s q) ∧ ∀ j, j < 4 → s' 7 j = s 7 j
def FT (t t' : zmem) : Prop := (∀ q, gR q = true → t' q = t q) ∧ (∀ j, 200 ≤ j → t' 58 j = t 58 j) ∧ ∀ j, j ≠ 25 → t' 57 j = t 57 j
theorem FC.rf (s : zmem) : FC s s := ⟨fun _ _ => rfl, fun _ _ => rfl⟩
theorem FT.rf (t : zmem) : FT t t := ⟨fun _ _ => rfl, fun _ _ => rfl, fun _ _ => rfl⟩
theorem FC.tr {a b c : zmem} (h : FC a b) (k : FC b c) : FC a c := ⟨fun q hq => (k.1 q hq).trans (h.1 q hq), fun j hj => (k.2 j hj).trans (h.2 j hj)⟩
theorem FT.tr {a b c : zmem} (h : FT a b) (k : FT b c) : FT a c := ⟨fun q hq => (k.1 q hq).trans (h.1 q hq), fun j hj => (k.2.1 j hj).trans (h.2.1 j hj), fun j hj => (k.2.2 j hj).trans (h.2.2 j hj)⟩
theorem FC.mset {s : zmem} {q j : Nat} {v : Int32} (hq : gC q = false) (hj : q = 7 → 4 ≤ j) : FC s (mset s q j v) := by
  refine ⟨fun a ha => mset_cell _ (fun e => by rw [e, hq] at ha; cases ha), fun i hi => mset_ne _ (fun e => ?_)⟩
  have := hj e.1.symm
  omega
theorem FC.aput {s : zmem} {q n : Nat} {i v : Int32} (hq : gC q = false) (hj : q ≠ 7) : FC s (aput s q n i v) := ⟨fun a ha => aput_ne (fun e => by rw [e, hq] at ha; cases ha), fun i hi => by rw [aput_ne (Ne.symm hj)]⟩
theorem FC.fold {f : Nat → zmem → zmem} (h : ∀ k s, FC s (f k s)) : ∀ n k s, FC s (sfold f n k s) := by
  intro n
  induction n with
  | zero => intro k s; exact FC.rf s
  | succ n ih => intro k s; exact (h k s).tr (ih (k + 1) (f k s))
theorem FT.mset {t : zmem} {q j : Nat} {v : Int32} (hq : gR q = false) (hj : q = 58 → j < 200) (h57 : q = 57 → j = 25 := by intro e; omega) : FT t (mset t q j v) := by
  refine ⟨fun a ha => mset_cell _ (fun e => by rw [e, hq] at ha; cases ha), fun i hi => mset_ne _ (fun e => ?_), fun i hi => mset_ne _ (fun e => ?_)⟩
  · have := hj e.1.symm
    omega
  · have := h57 e.1.symm
    omega
theorem FT.fold {f : Nat → zmem → zmem} (h : ∀ k t, k < 400 → FT t (f k t)) : ∀ n k t, k + n ≤ 400 → FT t (sfold f n k t) := by
  intro n
  induction n with
  | zero => intro k t _; exact FT.rf t
  | succ n ih => intro k t hk; exact (h k t (by omega)).tr (ih (k + 1) (f k t) (by omega))
def IM (s : zmem) (p : Nat) (t : zmem) (X D Y : Nat) : Prop := PR s p t X D Y ∧ ∀ j, j < 4 → s p j = s 7 j
def TB (x y : Int32) : Prop := y = x &&& 255
def RP (s t : zmem) (D Y C L W : Nat) : Prop :=
  CI s D Y C L W ∧ RI t D Y C L W ∧ PR s 7 t 0 D Y ∧
  (s 7 2 = t 57 2 ∧ s 7 3 = t 57 3 ∧ 0 ≤ t 57 2 ∧ t 57 2 ≤ 99 ∧ 0 ≤ t 57 3 ∧ t 57 3 ≤ 99) ∧
  CL s t C ∧
  (∀ k, k < L → TB (s 2 k) (t 66 k)) ∧
  (∀ k, k < W → s 48 k = t 73 k ∧ s 49 k = t 74 k ∧ (∃ j, j < D ∧ t 73 k = Int32.ofNat j) ∧ ∃ j, j < Y ∧ t 74 k = Int32.ofNat j) ∧
  s 1 4 = t 57 17 ∧ (s 0 7 = t 59 0 ∧ s 0 8 = t 59 1) ∧
  (¬ s 0 7 = 0 → IM s 27 t 200 D Y) ∧ (¬ s 0 8 = 0 → IM s 37 t 300 D Y)
def Rel (m : zmem) : Prop := ∃ D Y C L W, RP m m D Y C L W
section RPs
variable {s t s' t' : zmem} {D Y C L W : Nat}
theorem RP.c (h : RP s t D Y C L W) : CI s D Y C L W := h.1
theorem RP.r (h : RP s t D Y C L W) : RI t D Y C L W := h.2.1
theorem RP.p (h : RP s t D Y C L W) : PR s 7 t 0 D Y := h.2.2.1
theorem RP.hD (h : RP s t D Y C L W) : D ≤ 7 := h.1.2.1
theorem RP.hY (h : RP s t D Y C L W) : Y ≤ 8 := h.1.2.2.2.1
theorem RP.hC (h : RP s t D Y C L W) : C ≤ 4 := h.1.2.2.2.2.2.1
theorem RP.s1 (h : RP s t D Y C L W) : s 7 1 = Int32.ofNat D := h.1.1
theorem RP.s0 (h : RP s t D Y C L W) : s 7 0 = Int32.ofNat Y := h.1.2.2.1
theorem RP.t1 (h : RP s t D Y C L W) : t 64 1 = Int32.ofNat D := h.2.1.1
theorem RP.t0 (h : RP s t D Y C L W) : t 64 0 = Int32.ofNat Y := h.2.1.2.2.1
theorem RP.cl (h : RP s t D Y C L W) : CL s t C := h.2.2.2.2.1
/-- other cells apart -/
theorem RP.congr (h : RP s t D Y C L W) (hs : ∀ q, q < 57 → s' q = s q) (ht : ∀ q, 57 ≤ q → t' q = t q) : RP s' t' D Y C L W := by
  obtain ⟨c, r, p, a1, a2, a3, a4, a5, a6, a7, a8⟩ := h
  have im : ∀ q X, q < 40 → IM s q t X D Y → IM s' q t' X D Y := fun q X hq i => ⟨i.1.congr (fun c hc => hs _ (by omega)) (fun j _ => by rw [ht 58 (by decide)]) (ht 63 (by decide)) c.2.1 c.2.2.2.1, fun j hj => by rw [hs q (by omega), hs 7 (by decide)]; exact i.2 j hj⟩
  refine ⟨?_, ?_, p.congr (fun c hc => hs _ (by omega)) (fun j _ => by rw [ht 58 (by decide)]) (ht 63 (by decide)) c.2.1 c.2.2.2.1, ?_, ?_, ?_, ?_, ?_, ?_, ?_, ?_⟩
  · unfold CI at c ⊢
    rw [hs 7 (by decide), hs 3 (by decide), hs 1 (by decide), hs 47 (by decide)]
    exact c
  · unfold RI at r ⊢
    rw [ht 64 (by decide), ht 57 (by decide)]
    exact r
  · rw [hs 7 (by decide), ht 57 (by decide)]; exact a1
  · intro k hk; rw [hs 4 (by decide), ht 65 (by decide)]; exact a2 k hk
  · intro k hk; rw [hs 2 (by decide), ht 66 (by decide)]; exact a3 k hk
  · intro k hk; rw [hs 48 (by decide), hs 49 (by decide), ht 73 (by decide), ht 74 (by decide)]; exact a4 k hk
  · rw [hs 1 (by decide), ht 57 (by decide)]; exact a5
  · rw [hs 0 (by decide), ht 59 (by decide)]; exact a6
  · rw [hs 0 (by decide)]; exact fun q => im 27 200 (by decide) (a7 q)
  · rw [hs 0 (by decide)]; exact fun q => im 37 300 (by decide) (a8 q)
/-- the parish now and scratch cells anew -/
theorem RP.now (h : RP s t D Y C L W) (hs : FC s s') (ht : FT t t') (hp : PR s' 7 t' 0 D Y) : RP s' t' D Y C L W := by
  obtain ⟨c, r, p, a1, a2, a3, a4, a5, a6, a7, a8⟩ := h
  have im : ∀ q X, 27 ≤ q → q < 40 → 200 ≤ X → IM s q t X D Y → IM s' q t' X D Y := fun q X h1 h2 h3 i => ⟨i.1.congr (fun c hc => hs.1 _ (by simp [gC]; omega)) (fun j _ => ht.2.1 _ (by omega)) (ht.1 63 (by decide)) c.2.1 c.2.2.2.1, fun j hj => by rw [hs.1 q (by simp [gC]; omega), hs.2 j hj]; exact i.2 j hj⟩
  refine ⟨?_, ?_, hp, ?_, ?_, ?_, ?_, ?_, ?_, ?_, ?_⟩
  · unfold CI at c ⊢
    rw [hs.2 1 (by decide), hs.2 0 (by decide), hs.1 3 (by decide), hs.1 1 (by decide), hs.1 47 (by decide)]
    exact c
  · unfold RI at r ⊢
    rw [ht.1 64 (by decide), ht.2.2 10 (by decide), ht.2.2 12 (by decide), ht.2.2 30 (by decide)]
    exact r
  · rw [hs.2 2 (by decide), hs.2 3 (by decide), ht.2.2 2 (by decide), ht.2.2 3 (by decide)]; exact a1
  · intro k hk; rw [hs.1 4 (by decide), ht.1 65 (by decide)]; exact a2 k hk
  · intro k hk; rw [hs.1 2 (by decide), ht.1 66 (by decide)]; exact a3 k hk
  · intro k hk; rw [hs.1 48 (by decide), hs.1 49 (by decide), ht.1 73 (by decide), ht.1 74 (by decide)]; exact a4 k hk
  · rw [hs.1 1 (by decide), ht.2.2 17 (by decide)]; exact a5
  · rw [hs.1 0 (by decide), ht.1 59 (by decide)]; exact a6
  · rw [hs.1 0 (by decide)]; exact fun q => im 27 200 (by decide) (by decide) (by decide) (a7 q)
  · rw [hs.1 0 (by decide)]; exact fun q => im 37 300 (by decide) (by decide) (by decide) (a8 q)
end RPs
/-- what is wanted of a pair: class first, then the reference on what the class left -/
theorem PB_mk {M6 M7 : zM} {av : List Value} {d6 d7 : Nat} (h6 : d6 ≤ 900) (h7 : d7 ≤ 900) (H : ∀ (m : zmem) (D Y C L W : Nat), RP m m D Y C L W → ∃ (r : Int32) (m1 m2 : zmem), Ei M6 d6 (.ref 0 :: av) m r m1 ∧ (∀ q, 57 ≤ q → m1 q = m q) ∧ (∀ q, q < 57 → m2 q = m1 q) ∧ (RP m m1 D Y C L W → Ei M7 d7 (.ref 57 :: av) m1 r m2 ∧ ∃ D' Y' C' L' W', RP m1 m2 D' Y' C' L' W')) : PB M6 M7 av Rel := by
  intro m ⟨D, Y, C, L, W, hm⟩
  obtain ⟨r, m1, m2, e6, k6, k7, g⟩ := H m D Y C L W hm
  obtain ⟨e7, D', Y', C', L', W', hr⟩ := g (hm.congr (fun _ _ => rfl) k6)
  exact ⟨d6, d7, r, m1, m2, h6, h7, e6, e7, D', Y', C', L', W', hr.congr k7 (fun _ _ => rfl)⟩
/-- the usual pair: frames and the parish now -/
theorem PB_now {M6 M7 : zM} {av : List Value} {d6 d7 : Nat} (f : zmem → Nat → Nat → Nat → Nat → Nat → Int32 × zmem) (g : zmem → Nat → Nat → Nat → Nat → Nat → Int32 × zmem) (h6 : d6 ≤ 900) (h7 : d7 ≤ 900) (E6 : ∀ m D Y C L W, CI m D Y C L W → RP m m D Y C L W → Ei M6 d6 (.ref 0 :: av) m (f m D Y C L W).1 (f m D Y C L W).2) (E7 : ∀ s t D Y C L W, RI t D Y C L W → RP s t D Y C L W → Ei M7 d7 (.ref 57 :: av) t (g t D Y C L W).1 (g t D Y C L W).2) (S : ∀ s t D Y C L W, RP s t D Y C L W → (f s D Y C L W).1 = (g t D Y C L W).1 ∧ FC s (f s D Y C L W).2 ∧ FT t (g t D Y C L W).2 ∧ PR (f s D Y C L W).2 7 (g t D Y C L W).2 0 D Y) : PB M6 M7 av Rel := by
  refine PB_mk h6 h7 (fun m D Y C L W hm => ?_)
  have s1 := S m m D Y C L W hm
  have hk : ∀ q, 57 ≤ q → (f m D Y C L W).2 q = m q := fun q hq => s1.2.1.1 q (by simp [gC]; omega)
  have hm1 : RP m (f m D Y C L W).2 D Y C L W := hm.congr (fun _ _ => rfl) hk
  have s2 := S m (f m D Y C L W).2 D Y C L W hm1
  refine ⟨(f m D Y C L W).1, (f m D Y C L W).2, (g (f m D Y C L W).2 D Y C L W).2, E6 m D Y C L W hm.c hm, hk, fun q hq => s2.2.2.1.1 q (by simp [gR]; omega), fun _ => ⟨?_, D, Y, C, L, W, hm1.now s2.2.1 s2.2.2.1 s2.2.2.2⟩⟩
  have e7 := E7 m (f m D Y C L W).2 D Y C L W hm1.r hm1
  rw [← s2.1] at e7
  exact e7
/-! calls, one by one -/
def SIM (s t : zmem) (D Y : Nat) (a b : Int32 × zmem) : Prop := a.1 = b.1 ∧ FC s a.2 ∧ FT t b.2 ∧ PR a.2 7 b.2 0 D Y
section OP
variable {s t : zmem} {D Y C L W : Nat}
theorem SIM.st (h : RP s t D Y C L W) {a b : Int32} (e : a = b) : SIM s t D Y (a, s) (b, t) := ⟨e, FC.rf s, FT.rf t, h.p⟩
theorem RP.sin1 (h : RP s t D Y C L W) (d : Int32) : sin (t 64 1) d = sin (s 7 1) d := by rw [h.s1, h.t1]
theorem RP.sin0 (h : RP s t D Y C L W) (d : Int32) : sin (t 64 0) d = sin (s 7 0) d := by rw [h.s0, h.t0]
theorem RP.wait (h : RP s t D Y C L W) {k : Nat} (hk : k < D) : rlf t 0 (Int32.ofNat k) = shas (swait s 7 D) (Int32.ofNat k) := (wait_lf h.p h.s1 h.hD h.hY hk).symm
theorem RP.dex (h : RP s t D Y C L W) {d : Int32} (e : ¬ sin (s 7 1) d = 0) : ∃ k, k < D ∧ d = Int32.ofNat k := sin_ex h.s1 (by have := h.hD; omega) e
theorem RP.yex (h : RP s t D Y C L W) {d : Int32} (e : ¬ sin (s 7 0) d = 0) : ∃ k, k < Y ∧ d = Int32.ofNat k := sin_ex h.s0 h.hY e
theorem S_told (h : RP s t D Y C L W) (x : Int32) : SIM s t D Y (sk_told s D x, s) (rk_told t D x, t) := by
  refine SIM.st h ?_
  unfold sk_told rk_told
  rw [h.s0, h.t0, h.s1, h.t1, wait_eq h.p h.s1 h.hD h.hY, laid_eq h.p h.hD h.hY, h.2.2.2.1.1, h.2.2.2.1.2.1, h.p.2.2.2.1, h.c.2.2.2.2.1, h.r.2.2.2.2.1, h.c.2.2.2.2.2.2.1, h.r.2.2.2.2.2.2.1, h.c.2.2.2.2.2.2.2.2.1, h.r.2.2.2.2.2.2.2.2.1]
theorem S_yard (h : RP s t D Y C L W) (i x : Int32) : SIM s t D Y (sk_yard s D i x, s) (rk_yard t D i x, t) := by
  refine SIM.st h ?_
  unfold sk_yard rk_yard
  rw [h.sin0]
  by_cases h1 : sin (s 7 0) i = 0
  · rw [if_pos h1, if_pos h1]
  · rw [if_neg h1, if_neg h1]
    obtain ⟨k, hk, rfl⟩ := h.yex h1
    rw [h.p.frost h.hY hk, who_eq h.p h.hD]
theorem S_dead (h : RP s t D Y C L W) (d x : Int32) : SIM s t D Y (sk_dead s d x, s) (rk_dead t d x, t) := by
  refine SIM.st h ?_
  unfold sk_dead rk_dead
  rw [h.sin1]
  by_cases h1 : sin (s 7 1) d = 0
  · rw [if_pos h1, if_pos h1]
  · rw [if_neg h1, if_neg h1]
    obtain ⟨k, hk, rfl⟩ := h.dex h1
    have hD := h.hD
    have e6 : (if shas (s 7 13) (Int32.ofNat k) = 0 then (0 : Int32) else 1) = wt t 0 48 (Int32.ofNat k) := by
      rw [shas_bt _ (by omega), h.p.knock hD hk]
      rw [wt_k (by omega)]
      rcases (h.p.2.2.1 k hk).2 with e | e <;> rw [e] <;> decide
    rw [h.p.rank hD hk, h.p.waited hD hk, h.p.kin hD hk, h.p.gifts hD hk, h.p.boards hD hk, h.p.yard hD hk, h.p.label hD hk, h.p.marks hD hk, e6, natc (by omega)]
theorem RP.place (h : RP s t D Y C L W) {k : Nat} (hk : k < D) : splace s 7 3 C D (swait s 7 D) (Int32.ofNat k) = rplace t 0 C D (Int32.ofNat k) := place_eq h.p h.s1 h.hD h.hY h.cl h.hC hk
theorem S_order (h : RP s t D Y C L W) (i : Int32) : SIM s t D Y (sk_order s D C i, s) (rorder t 0 C D i, t) := by
  refine SIM.st h ?_
  have hD := h.hD
  unfold sk_order rorder
  rw [sfind_ext (N := 7) D 0 hD (fun k h1 h2 => ?_)]
  · refine sfind_congr D 0 (fun k _ hk => ?_)
    have hk : k < D := by omega
    unfold sk_ordc rordc
    rw [h.wait hk, h.place hk]
  · unfold sk_ordc
    rw [shas_bt _ (by omega), bt_swait h.p h.s1 hD (by omega)]
    have : ¬ k < D := by omega
    simp [this]
theorem rini_le {v lo hi : Int32} : rini v lo hi = 0 ↔ (v < lo ∨ hi < v) := by
  unfold rini
  by_cases h1 : v < lo
  · simp [h1]
  · by_cases h2 : hi < v <;> simp [h1, h2]
theorem FT.wp {t : zmem} {o k : Nat} {v : Int32} (ho : o + k < 200) (hk : k < 2147483648) : FT t (wp t 0 o (Int32.ofNat k) v) := by
  rw [wp_k hk]
  exact FT.mset rfl (fun _ => by omega)
theorem S_letter (h : RP s t D Y C L W) (d v : Int32) : SIM s t D Y (sk_letter s d v) (rk_letter t d v) := by
  unfold sk_letter rk_letter
  rw [h.sin1]
  by_cases h1 : sin (s 7 1) d = 0
  · rw [if_pos h1, if_pos h1]; exact SIM.st h rfl
  · rw [if_neg h1, if_neg h1]
    by_cases h2 : v < 0
    · rw [if_pos h2, if_pos (rini_le.mpr (Or.inl h2))]; exact SIM.st h rfl
    · rw [if_neg h2]
      by_cases h3 : v ≤ 99
      · rw [if_pos h3, if_neg (fun q => by rcases rini_le.mp q with q | q; exact h2 q; exact absurd h3 (Int32.not_le.mpr q))]
        obtain ⟨k, hk, rfl⟩ := h.dex h1
        have hD := h.hD
        refine ⟨h.p.rank hD hk, FC.aput rfl (by decide), FT.wp (by omega) (by omega), ?_⟩
        show PR (aput s (7 + 2) 7 (Int32.ofNat k) v) 7 (wp t 0 8 (Int32.ofNat k) v) 0 D Y
        rw [aput_k (by omega) (by decide), wp_k (by omega)]
        exact h.p.set hD h.hY (c := 2) (Or.inr (Or.inl rfl)) (by decide) hk ⟨Int32.not_lt.mp h2, h3⟩
      · rw [if_neg h3, if_pos (rini_le.mpr (Or.inr (Int32.not_le.mp h3)))]; exact SIM.st h rfl
theorem gift_eq (v : Int32) : smin 9999 v = if v ≤ 9999 then v else 9999 := by
  unfold smin
  by_cases h : v ≤ 9999
  · rw [if_pos h]
    by_cases e : v < 9999
    · rw [if_pos e]
    · rw [if_neg e]; exact Int32.le_antisymm (Int32.not_lt.mp e) h
  · rw [if_neg h, if_neg (fun q => h (Int32.le_of_lt q))]
theorem S_gift (h : RP s t D Y C L W) (d n : Int32) : SIM s t D Y (sk_gift s D d n) (rk_gift t d n) := by
  unfold sk_gift rk_gift
  rw [h.sin1]
  by_cases h1 : sin (s 7 1) d = 0
  · rw [if_pos h1, if_pos h1]; exact SIM.st h rfl
  · rw [if_neg h1, if_neg h1]
    by_cases h2 : n < 1
    · rw [if_pos h2, if_pos (rini_le.mpr (Or.inl h2))]; exact SIM.st h rfl
    · rw [if_neg h2]
      by_cases h3 : n ≤ 999
      · rw [if_pos h3, if_neg (fun q : rini n 1 999 = 0 => by rcases rini_le.mp q with q | q; exact h2 q; exact absurd h3 (Int32.not_le.mpr q))]
        obtain ⟨k, hk, rfl⟩ := h.dex h1
        have hD := h.hD
        rw [h.wait hk]
        by_cases h4 : shas (swait s 7 D) (Int32.ofNat k) = 0
        · rw [if_pos h4, if_pos h4]; exact SIM.st h rfl
        · rw [if_neg h4, if_neg h4]
          have e : sk_giftn s (Int32.ofNat k) n = rgv t (Int32.ofNat k) n := by unfold sk_giftn rgv; rw [h.p.gifts hD hk, gift_eq]
          have c5 : colok 5 := Or.inr (Or.inr (Or.inr (Or.inl rfl)))
          have hv : 0 ≤ rgv t (Int32.ofNat k) n ∧ rgv t (Int32.ofNat k) n ≤ 9999 := by
            unfold rgv
            by_cases e9 : wt t 0 24 (Int32.ofNat k) + n ≤ 9999
            · rw [if_pos e9]
              refine ⟨?_, e9⟩
              obtain ⟨a, ha, ea⟩ := nat_of (n := 9999) (by decide) (h.p.1 5 c5 k hk).2.1 (h.p.1 5 c5 k hk).2.2
              obtain ⟨b, hb, eb⟩ := nat_of (n := 999) (v := n) (by decide) (by have := Int32.not_lt.mp h2; exact Int32.le_trans (by decide) this) h3
              rw [wt_k (by omega), show t 58 (0 + 24 + k) = Int32.ofNat a from ea, eb, ← Int32.ofNat_add]
              exact Int32.not_lt.mp (n_lt0 (by omega))
            · rw [if_neg e9]; decide
          refine ⟨?_, FC.aput rfl (by decide), FT.wp (by omega) (by omega), ?_⟩
          · show sk_giftn s (Int32.ofNat k) n = wt (wp t 0 24 (Int32.ofNat k) (rgv t (Int32.ofNat k) n)) 0 24 (Int32.ofNat k)
            rw [e, wp_k (by omega), wt_k (by omega), mset_eq]
          · show PR (aput s (7 + 5) 7 (Int32.ofNat k) (sk_giftn s (Int32.ofNat k) n)) 7 (wp t 0 24 (Int32.ofNat k) (rgv t (Int32.ofNat k) n)) 0 D Y
            rw [e, aput_k (by omega) (by decide), wp_k (by omega)]
            exact h.p.set hD h.hY (c := 5) c5 (by decide) hk hv
      · rw [if_neg h3, if_pos (rini_le.mpr (Or.inr (Int32.not_le.mp h3)))]; exact SIM.st h rfl
theorem S_knock (h : RP s t D Y C L W) (d : Int32) : SIM s t D Y (sk_knock s D C d) (rk_knock t D C d) := by
  unfold sk_knock rk_knock
  rw [h.sin1]
  by_cases h1 : sin (s 7 1) d = 0
  · rw [if_pos h1, if_pos h1]; exact SIM.st h rfl
  · rw [if_neg h1, if_neg h1]
    obtain ⟨k, hk, rfl⟩ := h.dex h1
    have hD := h.hD
    rw [h.wait hk]
    by_cases h4 : shas (swait s 7 D) (Int32.ofNat k) = 0
    · rw [if_pos h4, if_pos h4]; exact SIM.st h rfl
    · rw [if_neg h4, if_neg h4]
      refine ⟨h.place hk, FC.mset rfl (fun _ => by decide), FT.wp (by omega) (by omega), ?_⟩
      show PR (mset s 7 13 (s 7 13 ||| sbit (Int32.ofNat k))) 7 (wp t 0 48 (Int32.ofNat k) 1) 0 D Y
      rw [wp_k (by omega)]
      exact h.p.setK hD h.hY hk
theorem S_label (h : RP s t D Y C L W) (c n : Int32) : SIM s t D Y (sk_label s c n) (rk_label t c n) := by
  unfold sk_label rk_label
  rw [h.sin1, h.sin1]
  by_cases h1 : sin (s 7 1) c = 0
  · rw [if_pos h1, if_pos h1]; exact SIM.st h rfl
  · rw [if_neg h1, if_neg h1]
    by_cases h2 : sin (s 7 1) n = 0
    · rw [if_pos h2, if_pos h2]; exact SIM.st h rfl
    · rw [if_neg h2, if_neg h2]
      obtain ⟨k, hk, rfl⟩ := h.dex h1
      have hD := h.hD
      refine ⟨h.p.label hD hk, FC.aput rfl (by decide), FT.wp (by omega) (by omega), ?_⟩
      show PR (aput s (7 + 8) 7 (Int32.ofNat k) n) 7 (wp t 0 56 (Int32.ofNat k) n) 0 D Y
      rw [aput_k (by omega) (by decide), wp_k (by omega)]
      exact h.p.set hD h.hY (c := 8) (Or.inr (Or.inr (Or.inr (Or.inr (Or.inr (Or.inr (Or.inl rfl))))))) (by decide) hk (h.dex h2)
theorem mark_iff {D : Nat} (hD : D ≤ 7) (v : Int32) : v &&& ((sbit (Int32.ofNat D) - 1) ^^^ -1) = 0 ↔ ∃ j, j < 2 ^ D ∧ v = Int32.ofNat j := by
  have h2 := two_D hD
  constructor
  · intro h
    have e : v = v &&& Int32.ofNat (2 ^ D - 1) := by
      apply bt_ext
      intro k hk
      have q := congrArg (fun y => bt y k) h
      simp only [bt_and, bt_not _ hk, bt_zero, bt_all D (by omega) k hk] at q
      rw [bt_and, show Int32.ofNat (2 ^ D - 1) = sbit (Int32.ofNat D) - 1 by rw [sbit_eq (by omega), shl_D1 hD], bt_all D (by omega) k hk]
      by_cases e : k < D
      · simp [e]
      · simp [e] at q; simp [e, q]
    have hl : (v &&& Int32.ofNat (2 ^ D - 1)).toBitVec.toNat ≤ 2 ^ D - 1 := by
      have e1 : (v &&& Int32.ofNat (2 ^ D - 1)).toBitVec.toNat = v.toBitVec.toNat &&& (Int32.ofNat (2 ^ D - 1)).toBitVec.toNat := by simp
      have e2 : (Int32.ofNat (2 ^ D - 1)).toBitVec.toNat = 2 ^ D - 1 := by
        show (BitVec.ofNat 32 (2 ^ D - 1)).toNat = _
        rw [BitVec.toNat_ofNat]
        exact Nat.mod_eq_of_lt (by omega)
      rw [e1, e2]
      exact Nat.and_le_right
    have hp := Nat.two_pow_pos D
    exact ⟨(v &&& Int32.ofNat (2 ^ D - 1)).toBitVec.toNat, by omega, e.trans (ofNat_bv _).symm⟩
  · intro ⟨j, hj, e⟩
    subst e
    have : ∀ D, D < 8 → ∀ j, j < 128 → j < 2 ^ D → Int32.ofNat j &&& ((sbit (Int32.ofNat D) - 1) ^^^ -1) = 0 := by decide +kernel
    exact this D (by omega) j (by omega) hj
theorem S_mark (h : RP s t D Y C L W) (c v : Int32) : SIM s t D Y (sk_mark s c v) (rk_mark t c v) := by
  unfold sk_mark rk_mark
  rw [h.sin1]
  by_cases h1 : sin (s 7 1) c = 0
  · rw [if_pos h1, if_pos h1]; exact SIM.st h rfl
  · rw [if_neg h1, if_neg h1]
    have hD := h.hD
    have h2 := two_D hD
    have hp := Nat.two_pow_pos D
    unfold smkc
    rw [h.s1, h.t1, shl_D1 hD]
    by_cases h3 : v &&& ((sbit (Int32.ofNat D) - 1) ^^^ -1) = 0
    · obtain ⟨j, hj, rfl⟩ := (mark_iff hD v).mp h3
      rw [if_pos h3, if_neg (fun q => by
        rcases rini_le.mp q with q | q
        · exact n_lt0 (by omega) q
        · rw [n_lt (by omega) (by omega)] at q; omega)]
      obtain ⟨k, hk, rfl⟩ := h.dex h1
      refine ⟨h.p.marks hD hk, FC.aput rfl (by decide), FT.wp (by omega) (by omega), ?_⟩
      show PR (aput s (7 + 9) 7 (Int32.ofNat k) (Int32.ofNat j)) 7 (wp t 0 64 (Int32.ofNat k) (Int32.ofNat j)) 0 D Y
      rw [aput_k (by omega) (by decide), wp_k (by omega)]
      exact h.p.set hD h.hY (c := 9) (Or.inr (Or.inr (Or.inr (Or.inr (Or.inr (Or.inr (Or.inr rfl))))))) (by decide) hk ⟨j, hj, rfl⟩
    · rw [if_neg h3, if_pos (Classical.byContradiction (fun q => h3 ((mark_iff hD v).mpr ?_)))]
      · exact SIM.st h rfl
      · have q1 := fun z => q (rini_le.mpr (Or.inl z))
        have q2 := fun z => q (rini_le.mpr (Or.inr z))
        obtain ⟨a, ha, e⟩ := nat_of (n := 2 ^ D - 1) (by omega) (Int32.not_lt.mp q1) (Int32.not_lt.mp q2)
        exact ⟨a, by omega, e⟩
theorem S_seed (h : RP s t D Y C L W) (v : Int32) : SIM s t D Y (sk_seed s v) (rk_seed t v) := by
  unfold sk_seed rk_seed
  by_cases h1 : 0 ≤ v
  · rw [if_pos h1, if_pos h1]
    exact ⟨h.p.2.2.2.2.1, FC.mset rfl (fun _ => by decide), FT.mset rfl (fun _ => by decide), h.p.setC h1 h.hD h.hY⟩
  · rw [if_neg h1, if_neg h1]; exact SIM.st h rfl
/-- one is laid -/
theorem PR.lay {p X : Nat} (h : PR s p t X D Y) (hD : D ≤ 7) (hY : Y ≤ 8) {k i : Nat} (hk : k < D) (hi : i < Y) (hf : ∀ j, j < D → ¬ wt t X 40 (Int32.ofNat j) = Int32.ofNat i) : PR (slay s p (Int32.ofNat k) (Int32.ofNat i)) p (rlaym t X (Int32.ofNat k) (Int32.ofNat i)) X D Y := by
  unfold slay slay2 rlaym rlay2 slayw
  rw [h.frost hY hi, aput_k (show i < 8 by omega) (by decide), aput_k (show k < 7 by omega) (by decide), wp_k (show i < 2147483648 by omega), wp_k (show k < 2147483648 by omega)]
  have g1 := h.set hD hY (c := 1) (k := i) (v := 0) (Or.inl rfl) (by decide) hi (by show (0 : Int32) ≤ 0 ∧ (0 : Int32) ≤ 99; decide)
  have g2 := g1.setY hD hY hk hi (fun j hj => by
    rw [mset_ne _ (show ¬ (58 = 58 ∧ X + 40 + j = X + colO 1 + i) by simp only [colO]; omega)]
    have := hf j hj
    rw [wt_k (by omega)] at this
    exact this)
  have e := g2.2.2.2.1
  have g3 := g2.setH (v := mset (mset s (p + 1) i 0) (p + 7) k (Int32.ofNat i) p 14 + (wt t X 0 (Int32.ofNat i) + 4)) hD hY
  rw [show (mset (mset s (p + 1) i 0) (p + 7) k (Int32.ofNat i) p 14 + (wt t X 0 (Int32.ofNat i) + 4)) = mset (mset s (p + 1) i 0) (p + 7) k (Int32.ofNat i) p 14 + (wt t X 0 (Int32.ofNat i) + 4) from rfl] at g3
  have ew : ∀ (u : zmem) (v : Int32), wp u X 72 0 v = mset u 58 (X + 72) v := fun u v => rfl
  have er : ∀ (u : zmem), wt u X 72 0 = u 58 (X + 72) := fun u => rfl
  rw [ew, er]
  rw [e] at g3 ⊢
  exact g3
theorem FC.lay (d i : Int32) : FC s (slay s 7 d i) := ((FC.aput (q := 7 + 1) rfl (by decide)).tr (FC.aput (q := 7 + 7) rfl (by decide))).tr (FC.mset rfl (fun _ => by decide))
theorem FT.lay {k i : Nat} (hk : k < 7) (hi : i < 8) : FT t (rlaym t 0 (Int32.ofNat k) (Int32.ofNat i)) := by
  unfold rlaym rlay2
  exact ((FT.wp (by omega) (by omega)).tr (FT.wp (by omega) (by omega))).tr (FT.mset rfl (fun _ => by decide))
theorem S_lay (h : RP s t D Y C L W) (d i : Int32) : SIM s t D Y (sk_lay s D d i) (rk_lay t D d i) := by
  unfold sk_lay rk_lay
  rw [h.sin1, h.sin0]
  by_cases h1 : sin (s 7 1) d = 0
  · rw [if_pos h1, if_pos h1]; exact SIM.st h rfl
  · rw [if_neg h1, if_neg h1]
    by_cases h2 : sin (s 7 0) i = 0
    · rw [if_pos h2, if_pos h2]; exact SIM.st h rfl
    · rw [if_neg h2, if_neg h2]
      obtain ⟨k, hk, rfl⟩ := h.dex h1
      obtain ⟨j, hj, rfl⟩ := h.yex h2
      have hD := h.hD
      have hY := h.hY
      rw [h.wait hk]
      by_cases h3 : shas (swait s 7 D) (Int32.ofNat k) = 0
      · rw [if_pos h3, if_pos h3]; exact SIM.st h rfl
      · rw [if_neg h3, if_neg h3]
        have tw := taken_who h.p hD hY (i := j) (by omega)
        by_cases h4 : 0 ≤ rwho t 0 D (Int32.ofNat j)
        · rw [if_pos (tw.mpr h4), if_pos h4]; exact SIM.st h rfl
        · rw [if_neg (fun q => h4 (tw.mp q)), if_neg h4]
          refine ⟨?_, FC.lay _ _, FT.lay (by omega) (by omega), h.p.lay hD hY hk hj (fun m hm e => h4 ((who_pos t 0 hD _).mpr ⟨m, hm, e⟩))⟩
          show slayw s 7 (Int32.ofNat j) = _
          unfold slayw
          rw [h.p.frost hY hj]
end OP
/-! days and nights -/
theorem mset_sf (m : zmem) (q j : Nat) : mset m q j (m q j) = m := by
  funext a b
  unfold mset
  by_cases h : a = q ∧ b = j
  · rw [if_pos h, h.1, h.2]
  · rw [if_neg h]
def NW (s t : zmem) (D Y C : Nat) : Prop := PR s 7 t 0 D Y ∧ s 7 1 = Int32.ofNat D ∧ s 7 2 = t 57 2 ∧ s 7 3 = t 57 3 ∧ CL s t C ∧ D ≤ 7 ∧ Y ≤ 8 ∧ C ≤ 4
section DY
variable {s t s' t' : zmem} {D Y C L W : Nat}
theorem RP.nw (h : RP s t D Y C L W) : NW s t D Y C := ⟨h.p, h.s1, h.2.2.2.1.1, h.2.2.2.1.2.1, h.cl, h.hD, h.hY, h.hC⟩
theorem NW.now (h : NW s t D Y C) (hs : FC s s') (ht : FT t t') (hp : PR s' 7 t' 0 D Y) : NW s' t' D Y C := by
  obtain ⟨p, h1, h2, h3, h4, h5⟩ := h
  refine ⟨hp, ?_, ?_, ?_, ?_, h5⟩
  · rw [hs.2 1 (by decide)]; exact h1
  · rw [hs.2 2 (by decide), ht.2.2 2 (by decide)]; exact h2
  · rw [hs.2 3 (by decide), ht.2.2 3 (by decide)]; exact h3
  · intro k hk; rw [hs.1 4 (by decide), ht.1 65 (by decide)]; exact h4 k hk
/-- one step of both: the pictures kept -/
def ST (D Y C : Nat) (s t s' t' : zmem) : Prop := NW s' t' D Y C ∧ FC s s' ∧ FT t t'
theorem ST.rf (h : NW s t D Y C) : ST D Y C s t s t := ⟨h, FC.rf s, FT.rf t⟩
theorem ST.mk' (h : NW s t D Y C) (hs : FC s s') (ht : FT t t') (hp : PR s' 7 t' 0 D Y) : ST D Y C s t s' t' := ⟨h.now hs ht hp, hs, ht⟩
theorem ST.tr {s2 t2 : zmem} (h : ST D Y C s t s' t') (k : ST D Y C s' t' s2 t2) : ST D Y C s t s2 t2 := ⟨k.1, h.2.1.tr k.2.1, h.2.2.tr k.2.2⟩
theorem ST.fold {f g : Nat → zmem → zmem} : ∀ n k s t, (∀ i a b, k ≤ i → i < k + n → NW a b D Y C → ST D Y C a b (f i a) (g i b)) → NW s t D Y C → ST D Y C s t (sfold f n k s) (sfold g n k t) := by
  intro n
  induction n with
  | zero => intro k s t _ h; exact ST.rf h
  | succ n ih =>
    intro k s t H h
    have h1 := H k s t (Nat.le_refl _) (by omega) h
    exact h1.tr (ih (k + 1) _ _ (fun i a b p q => H i a b (by omega) (by omega)) h1.1)
theorem thaw_eq (h : NW s t D Y C) (i v : Int32) : sthaw s 7 i v = rrate t v i := by
  unfold sthaw rrate smax
  rw [h.2.2.1, h.2.2.2.1]
  by_cases e : 0 < v * t 57 2 - t 57 3 * i
  · rw [if_pos e, if_neg (Int32.not_le.mpr e)]
  · rw [if_neg e, if_pos (Int32.not_lt.mp e)]
theorem rate_pos (t : zmem) (v i : Int32) : 0 ≤ rrate t v i := by
  unfold rrate
  by_cases e : v * t 57 2 - t 57 3 * i ≤ 0
  · rw [if_pos e]; decide
  · rw [if_neg e]; exact Int32.le_of_lt (Int32.not_le.mp e)
theorem melt_eq {a : Nat} (ha : a ≤ 99) {r : Int32} (hr : 0 ≤ r) : smax 0 (Int32.ofNat a - r) = if Int32.ofNat a ≤ r then 0 else Int32.ofNat a - r := by
  obtain ⟨b, hb, rfl⟩ := nat_of (n := 2147483647) (by decide) hr (by
    rw [Int32.le_iff_toInt_le]
    have := Int32.toInt_le r
    exact this)
  unfold smax
  have e : (Int32.ofNat a - Int32.ofNat b).toInt = (a : Int) - b := by
    rw [Int32.toInt_sub, i32 (by omega), i32 (by omega), Int.bmod_def]
    split <;> omega
  have e1 : (0 < Int32.ofNat a - Int32.ofNat b) ↔ b < a := by
    rw [Int32.lt_iff_toInt_lt, e]
    show (0 : Int) < _ ↔ _
    omega
  by_cases q : a ≤ b
  · rw [if_neg (fun z => by have := e1.mp z; omega), if_pos ((n_le (by omega) (by omega)).mpr q)]
  · rw [if_pos (e1.mpr (by omega)), if_neg (fun z => q ((n_le (by omega) (by omega)).mp z))]
theorem melt_rng {a : Nat} (ha : a ≤ 99) {r : Int32} (hr : 0 ≤ r) : 0 ≤ smax 0 (Int32.ofNat a - r) ∧ smax 0 (Int32.ofNat a - r) ≤ 99 := by
  rw [melt_eq ha hr]
  by_cases q : Int32.ofNat a ≤ r
  · rw [if_pos q]; decide
  · rw [if_neg q]
    obtain ⟨b, hb, rfl⟩ := nat_of (n := 2147483647) (by decide) hr (by
      rw [Int32.le_iff_toInt_le]
      exact Int32.toInt_le r)
    have q : ¬ a ≤ b := fun z => q ((n_le (by omega) (by omega)).mpr z)
    have e : Int32.ofNat a - Int32.ofNat b = Int32.ofNat (a - b) := by
      rw [← Int32.toInt_inj, i32 (by omega), Int32.toInt_sub, i32 (by omega), i32 (by omega), Int.bmod_def]
      split <;> omega
    rw [e]
    exact ⟨Int32.not_lt.mp (n_lt0 (by omega)), (n_le (b := 99) (by omega) (by decide)).mpr (by omega)⟩
theorem freeze_tab : ∀ a, a < 100 → ∀ h, h < 10 → smin 99 (Int32.ofNat a - (0 - Int32.ofNat h)) = rcut (Int32.ofNat a - (0 - Int32.ofNat h)) ∧ 0 ≤ rcut (Int32.ofNat a - (0 - Int32.ofNat h)) ∧ rcut (Int32.ofNat a - (0 - Int32.ofNat h)) ≤ 99 := by decide +kernel
theorem neg_ex {h : Int32} (h1 : ¬ h < -9) (h2 : h ≤ 0) : ∃ a, a < 10 ∧ h = 0 - Int32.ofNat a := by
  have e1 : (-9 : Int) ≤ h.toInt := by
    have := Int32.le_iff_toInt_le.mp (Int32.not_lt.mp h1)
    exact this
  have e2 : h.toInt ≤ 0 := Int32.le_iff_toInt_le.mp h2
  refine ⟨(0 - h.toInt).toNat, by omega, ?_⟩
  have tab : ∀ a, a < 10 → (0 - Int32.ofNat a).toInt = 0 - (a : Int) := by decide +kernel
  rw [← Int32.toInt_inj, tab _ (by omega)]
  omega
theorem taken_same (h : s' 14 = s 14) : staken s' 7 D = staken s 7 D := by unfold staken; rw [show (7 + 7) = 14 from rfl, h]
theorem fr_ex (h : NW s t D Y C) {k : Nat} (hk : k < Y) : ∃ a, a ≤ 99 ∧ wt t 0 0 (Int32.ofNat k) = Int32.ofNat a := by
  have hY := h.2.2.2.2.2.2.1
  obtain ⟨a, ha, e⟩ := nat_of (n := 99) (by decide) (h.1.1 1 (Or.inl rfl) k hk).2.1 (h.1.1 1 (Or.inl rfl) k hk).2.2
  exact ⟨a, ha, by rw [wt_k (by omega)]; exact e⟩
theorem spd_st (h : NW s t D Y C) {hh : Int32} (hlo : ¬ hh < -9) {k : Nat} (hk : k < Y) {tk : Int32} (ht : tk = staken s 7 D) : ST D Y C s t (spd2 7 tk hh k s) (rps1 hh D k t) := by
  subst ht
  have hD := h.2.2.2.2.2.1
  have hY := h.2.2.2.2.2.2.1
  have ef := h.1.frost hY hk
  obtain ⟨a, ha, ea⟩ := fr_ex h hk
  have tw := taken_who h.1 hD hY (i := k) (by omega)
  have put : ∀ v : Int32, (0 ≤ v ∧ v ≤ 99) → ST D Y C s t (aput s (7 + 1) 8 (Int32.ofNat k) v) (wp t 0 0 (Int32.ofNat k) v) := fun v hv => by
    refine ST.mk' h (FC.aput rfl (by decide)) (FT.wp (by omega) (by omega)) ?_
    rw [aput_k (by omega) (by decide), wp_k (by omega)]
    exact h.1.set hD hY (c := 1) (Or.inl rfl) (by decide) hk hv
  have same : wp t 0 0 (Int32.ofNat k) (wt t 0 0 (Int32.ofNat k)) = t := by rw [wp_k (by omega), wt_k (by omega)]; exact mset_sf t _ _
  unfold spd2 rps1 spd1
  by_cases h0 : hh ≤ 0
  · rw [if_pos h0, if_pos h0]
    obtain ⟨x, hx, rfl⟩ := neg_ex hlo h0
    obtain ⟨f1, f2, f3⟩ := freeze_tab a (by omega) x hx
    by_cases hz : 0 ≤ 0 - Int32.ofNat x
    · rw [if_pos hz]
      have x0 : x = 0 := by
        have : ∀ x, x < 10 → 0 ≤ 0 - Int32.ofNat x → x = 0 := by decide +kernel
        exact this x hx hz
      subst x0
      by_cases hw : 0 ≤ rwho t 0 D (Int32.ofNat k)
      · rw [if_pos hw]; exact ST.rf h
      · rw [if_neg hw]
        have e : rcut (wt t 0 0 (Int32.ofNat k) - (0 - Int32.ofNat 0)) = wt t 0 0 (Int32.ofNat k) := by
          rw [ea]
          have : ∀ a, a < 100 → rcut (Int32.ofNat a - (0 - Int32.ofNat 0)) = Int32.ofNat a := by decide +kernel
          exact this a (by omega)
        rw [e, same]; exact ST.rf h
    · rw [if_neg hz]
      by_cases hw : 0 ≤ rwho t 0 D (Int32.ofNat k)
      · rw [if_pos hw, if_pos (tw.mpr hw)]; exact ST.rf h
      · rw [if_neg hw, if_neg (fun q => hw (tw.mp q)), ef, ea, f1]
        exact put _ ⟨f2, f3⟩
  · rw [if_neg h0, if_pos (Int32.le_of_lt (Int32.not_le.mp h0)), if_neg h0, ef, thaw_eq h, ea, ← melt_eq ha (rate_pos t hh _)]
    exact put _ (melt_rng ha (rate_pos t hh _))
theorem spd_14 (tk hh : Int32) (k : Nat) (s : zmem) : spd2 7 tk hh k s 14 = s 14 := by
  have h1 : spd1 7 hh k s 14 = s 14 := by
    unfold spd1
    by_cases h0 : hh ≤ 0
    · rw [if_pos h0]
    · rw [if_neg h0, aput_ne (by decide)]
  unfold spd2
  by_cases h0 : 0 ≤ hh
  · rw [if_pos h0, h1]
  · rw [if_neg h0]
    by_cases h2 : ¬ shas tk (Int32.ofNat k) = 0
    · rw [if_pos h2, h1]
    · rw [if_neg h2, aput_ne (by decide), h1]
theorem spdA_st (h : NW s t D Y C) {hh : Int32} (hlo : ¬ hh < -9) (tk : Int32) : ∀ n k a b, k + n ≤ Y → tk = staken a 7 D → NW a b D Y C → ST D Y C a b (sfold (spd2 7 tk hh) n k a) (sfold (rps1 hh D) n k b) := by
  intro n
  induction n with
  | zero => intro k a b _ _ g; exact ST.rf g
  | succ n ih =>
    intro k a b hk e g
    have g1 := spd_st g hlo (k := k) (by omega) e
    exact g1.tr (ih (k + 1) _ _ (by omega) (by rw [taken_same (spd_14 tk hh k a)]; exact e) g1.1)
theorem wait_same (h7 : s' 7 1 = s 7 1 ∧ s' 7 13 = s 7 13) (h : s' 14 = s 14) : swait s' 7 D = swait s 7 D := by
  unfold swait slaid
  rw [show (7 + 7) = 14 from rfl, h, h7.1, h7.2]
theorem spw_st (h : NW s t D Y C) {k : Nat} (hk : k < D) {loft : Int32} (hl : loft = swait s 7 D) : ST D Y C s t (spw 7 loft k s) (rps2 k t) := by
  subst hl
  have hD := h.2.2.2.2.2.1
  have hY := h.2.2.2.2.2.2.1
  have same : wp t 0 16 (Int32.ofNat k) (wt t 0 16 (Int32.ofNat k)) = t := by rw [wp_k (by omega), wt_k (by omega)]; exact mset_sf t _ _
  have c3 : colok 3 := Or.inr (Or.inr (Or.inl rfl))
  obtain ⟨a, ha, ea⟩ := nat_of (n := 9999) (by decide) (h.1.1 3 c3 k hk).2.1 (h.1.1 3 c3 k hk).2.2
  have ea : wt t 0 16 (Int32.ofNat k) = Int32.ofNat a := by rw [wt_k (by omega)]; exact ea
  unfold spw rps2 rwd
  rw [wait_lf h.1 h.2.1 hD hY hk]
  by_cases h0 : rlf t 0 (Int32.ofNat k) = 0
  · rw [if_pos h0, if_pos h0, Int32.add_zero, same]; exact ST.rf h
  · rw [if_neg h0, if_neg h0, h.1.waited hD hk]
    have e1 : Int32.ofNat a + 1 = Int32.ofNat (a + 1) := nat_succ a
    by_cases h9 : 9999 ≤ wt t 0 16 (Int32.ofNat k)
    · rw [if_pos h9, Int32.add_zero, same]
      have a9 : a = 9999 := by
        rw [ea] at h9
        have := (n_le (by decide) (by omega)).mp (show Int32.ofNat 9999 ≤ Int32.ofNat a from h9)
        omega
      have e : smin 9999 (wt t 0 16 (Int32.ofNat k) + 1) = wt t 0 16 (Int32.ofNat k) := by rw [ea, a9]; decide
      refine ST.mk' h (FC.aput rfl (by decide)) (FT.rf t) ?_
      rw [e, aput_k (by omega) (by decide)]
      have g := h.1.set hD hY (c := 3) (v := wt t 0 16 (Int32.ofNat k)) c3 (by decide) hk (by rw [wt_k (by omega)]; exact (h.1.1 3 c3 k hk).2)
      have q : mset t 58 (0 + colO 3 + k) (wt t 0 16 (Int32.ofNat k)) = t := by rw [wt_k (by omega)]; exact mset_sf t _ _
      rw [q] at g
      exact g
    · rw [if_neg h9]
      have a9 : a < 9999 := by
        rw [ea] at h9
        apply Classical.byContradiction
        intro q
        exact h9 ((n_le (a := 9999) (by decide) (by omega)).mpr (by omega))
      have e : smin 9999 (wt t 0 16 (Int32.ofNat k) + 1) = wt t 0 16 (Int32.ofNat k) + 1 := by
        rw [ea, e1, gift_eq, if_pos (show Int32.ofNat (a + 1) ≤ 9999 from (n_le (b := 9999) (by omega) (by decide)).mpr (by omega))]
      refine ST.mk' h (FC.aput rfl (by decide)) (FT.wp (by omega) (by omega)) ?_
      rw [e, aput_k (by omega) (by decide), wp_k (by omega)]
      refine h.1.set hD hY (c := 3) c3 (by decide) hk ?_
      rw [ea, e1]
      exact ⟨Int32.not_lt.mp (n_lt0 (by omega)), (n_le (b := 9999) (by omega) (by decide)).mpr (by omega)⟩
theorem spw_same (loft : Int32) (k : Nat) (s : zmem) : (spw 7 loft k s 7 = s 7) ∧ spw 7 loft k s 14 = s 14 := by
  unfold spw
  by_cases h0 : shas loft (Int32.ofNat k) = 0
  · rw [if_pos h0]; exact ⟨rfl, rfl⟩
  · rw [if_neg h0, aput_ne (by decide), aput_ne (by decide)]; exact ⟨rfl, rfl⟩
theorem spwA_st (loft : Int32) : ∀ n k a b, k + n ≤ D → loft = swait a 7 D → NW a b D Y C → ST D Y C a b (sfold (spw 7 loft) n k a) (sfold rps2 n k b) := by
  intro n
  induction n with
  | zero => intro k a b _ _ g; exact ST.rf g
  | succ n ih =>
    intro k a b hk e g
    have g1 := spw_st g (k := k) (by omega) e
    have q := spw_same loft k a
    exact g1.tr (ih (k + 1) _ _ (by omega) (by rw [wait_same (by rw [q.1]; exact ⟨rfl, rfl⟩) q.2]; exact e) g1.1)
theorem day_st (h : NW s t D Y C) {hh : Int32} (hlo : ¬ hh < -9) : ST D Y C s t (sday s 7 D Y hh) (rpass t D Y hh) := by
  have g := spdA_st h hlo (staken s 7 D) Y 0 s t (by omega) rfl h
  exact g.tr (spwA_st _ D 0 _ _ (by omega) rfl g.1)
theorem S_day (h : RP s t D Y C L W) (v : Int32) : SIM s t D Y (sk_day s D Y v) (rk_day t D Y v) := by
  unfold sk_day rk_day
  by_cases h1 : v < -9
  · rw [if_pos h1, if_pos (rini_le.mpr (Or.inl h1))]; exact SIM.st h rfl
  · rw [if_neg h1]
    by_cases h2 : v ≤ 9
    · rw [if_pos h2, if_neg (fun q : rini v (-9) 9 = 0 => by rcases rini_le.mp q with q | q; exact h1 q; exact absurd h2 (Int32.not_le.mpr q))]
      have g := day_st h.nw h1
      exact ⟨soft_eq g.1.1 h.hY, g.2.1, g.2.2, g.1.1⟩
    · rw [if_neg h2, if_pos (rini_le.mpr (Or.inr (Int32.not_le.mp h2)))]; exact SIM.st h rfl
end DY
/-! nights and springs -/
theorem and_mod {n : Nat} (h : n < 9223372036854775808) : Int64.ofNat n &&& 2147483647 = Int64.ofNat (n % 2147483648) := by
  apply Int64.toBitVec_inj.mp
  apply BitVec.eq_of_toNat_eq
  have e : (Int64.ofNat n &&& 2147483647).toBitVec.toNat = n &&& 2147483647 := by
    show (BitVec.ofNat 64 n &&& BitVec.ofNat 64 2147483647).toNat = _
    rw [BitVec.toNat_and, BitVec.toNat_ofNat, BitVec.toNat_ofNat, Nat.mod_eq_of_lt (by omega), Nat.mod_eq_of_lt (by omega)]
  rw [e]
  show _ = (BitVec.ofNat 64 (n % 2147483648)).toNat
  rw [BitVec.toNat_ofNat, Nat.mod_eq_of_lt (by omega)]
  exact Nat.and_two_pow_sub_one_eq_mod n 31
theorem div_mod {n : Nat} (h : n < 9223372036854775808) : Int64.ofNat n - Int64.ofNat n / 2147483648 * 2147483648 = Int64.ofNat (n % 2147483648) := by
  have e : Int64.ofNat n / 2147483648 = Int64.ofNat (n / 2147483648) := by
    rw [← Int64.toInt_inj, Int64.toInt_div, i64 h, i64 (by omega)]
    show Int.bmod ((n : Int).tdiv 2147483648) (2 ^ 64) = _
    rw [Int.tdiv_eq_ediv_of_nonneg (by omega), Int.bmod_def]
    split <;> omega
  rw [e]
  have e2 : Int64.ofNat (n / 2147483648) * 2147483648 = Int64.ofNat (n / 2147483648 * 2147483648) := by rw [Int64.ofNat_mul]; rfl
  rw [e2]
  have e3 : Int64.ofNat (n % 2147483648) + Int64.ofNat (n / 2147483648 * 2147483648) = Int64.ofNat n := by
    rw [← Int64.ofNat_add]
    congr 1
    omega
  rw [← e3]
  grind
theorem to32 {n : Nat} (h : n < 2147483648) : (Int64.ofNat n).toInt32 = Int32.ofNat n := by
  rw [← Int32.toInt_inj, Int64.toInt_toInt32, i64 (by omega), i32 h, Int.bmod_def]
  split <;> omega
theorem chance_eq {c : Int32} (h : 0 ≤ c) : schance c = rch c ∧ 0 ≤ rch c := by
  obtain ⟨a, ha, rfl⟩ := nat_of (n := 2147483647) (by decide) h (by
    rw [Int32.le_iff_toInt_le]
    exact Int32.toInt_le c)
  have e : (Int32.ofNat a).toInt64 * 1103515245 + 12345 = Int64.ofNat (a * 1103515245 + 12345) := by
    rw [toI64 (by omega), Int64.ofNat_add, Int64.ofNat_mul]
    rfl
  have e1 : rch (Int32.ofNat a) = Int32.ofNat ((a * 1103515245 + 12345) % 2147483648) := by
    unfold rch rch0
    rw [e, div_mod (by omega), to32 (by omega)]
  constructor
  · rw [e1]
    unfold schance
    rw [e, and_mod (by omega), to32 (by omega)]
  · rw [e1]
    exact Int32.not_lt.mp (n_lt0 (by omega))
section SP
variable {s t s' t' : zmem} {D Y C L W : Nat}
theorem NW.ch (h : NW s t D Y C) : s 7 15 = t 58 73 ∧ 0 ≤ t 58 73 := ⟨h.1.2.2.2.2.1, h.1.2.2.2.2.2.1⟩
theorem draw_st (h : NW s t D Y C) : ST D Y C s t (mset s 7 15 (schance (s 7 15))) (rdm t) := by
  have hc := h.ch
  have g := chance_eq hc.2
  unfold rdm
  rw [hc.1, g.1]
  exact ST.mk' h (FC.mset rfl (fun _ => by decide)) (FT.mset rfl (fun _ => by decide)) (h.1.setC g.2 h.2.2.2.2.2.1 h.2.2.2.2.2.2.1)
theorem draw_eq (h : NW s t D Y C) {n : Int32} (hn : ¬ n ≤ 0) : sdraw (schance (s 7 15)) n = rdv t n := by
  have hc := h.ch
  unfold sdraw rdv
  rw [if_neg hn, hc.1, (chance_eq hc.2).1]
theorem gnaw_tab : ∀ b, b < 10 → smax 0 (Int32.ofNat b - 1) = (if Int32.ofNat b ≤ 0 then Int32.ofNat b else Int32.ofNat b - 1) ∧ 0 ≤ smax 0 (Int32.ofNat b - 1) ∧ smax 0 (Int32.ofNat b - 1) ≤ 9 := by decide +kernel
theorem spn_st (h : NW s t D Y C) {k : Nat} (hk : k < D) {loft r : Int32} (hl : loft = swait s 7 D) : ST D Y C s t (spn 7 loft r k s) (rgn r k t) := by
  subst hl
  have hD := h.2.2.2.2.2.1
  have hY := h.2.2.2.2.2.2.1
  unfold spn rgn
  rw [wait_lf h.1 h.2.1 hD hY hk, draw_eq h (by decide)]
  by_cases h0 : rlf t 0 (Int32.ofNat k) = 0
  · rw [if_pos h0, if_pos h0]; exact ST.rf h
  · rw [if_neg h0, if_neg h0]
    have g := draw_st h
    by_cases h1 : r ≤ rdv t 10
    · rw [if_pos h1, if_pos h1]; exact g
    · rw [if_neg h1, if_neg h1]
      refine g.tr ?_
      have c6 : colok 6 := Or.inr (Or.inr (Or.inr (Or.inr (Or.inl rfl))))
      obtain ⟨b, hb, eb⟩ := nat_of (n := 9) (by decide) (g.1.1.1 6 c6 k hk).2.1 (g.1.1.1 6 c6 k hk).2.2
      have eb : wt (rdm t) 0 32 (Int32.ofNat k) = Int32.ofNat b := by rw [wt_k (by omega)]; exact eb
      obtain ⟨f1, f2, f3⟩ := gnaw_tab b (by omega)
      rw [g.1.1.boards hD hk, eb, f1]
      rw [f1] at f2 f3
      have g2 := g.1.1.set hD hY (c := 6) (k := k) c6 (by decide) hk ⟨f2, f3⟩
      by_cases h2 : Int32.ofNat b ≤ 0
      · rw [if_pos h2, if_pos h2]
        rw [if_pos h2] at g2
        refine ST.mk' g.1 (FC.aput rfl (by decide)) (FT.rf _) ?_
        rw [aput_k (by omega) (by decide)]
        have q : mset (rdm t) 58 (0 + colO 6 + k) (Int32.ofNat b) = rdm t := by rw [← eb, wt_k (by omega)]; exact mset_sf _ _ _
        rw [q] at g2
        exact g2
      · rw [if_neg h2, if_neg h2]
        rw [if_neg h2] at g2
        refine ST.mk' g.1 (FC.aput rfl (by decide)) (FT.wp (by omega) (by omega)) ?_
        rw [aput_k (by omega) (by decide), wp_k (by omega)]
        exact g2
theorem spn_same (loft r : Int32) (k : Nat) (s : zmem) : (spn 7 loft r k s 7 1 = s 7 1 ∧ spn 7 loft r k s 7 13 = s 7 13) ∧ spn 7 loft r k s 14 = s 14 := by
  have e : ∀ v, (mset s 7 15 v 7 1 = s 7 1 ∧ mset s 7 15 v 7 13 = s 7 13) ∧ mset s 7 15 v 14 = s 14 := fun v => ⟨⟨mset_ne _ (by decide), mset_ne _ (by decide)⟩, mset_cell _ (by decide)⟩
  unfold spn
  by_cases h0 : shas loft (Int32.ofNat k) = 0
  · rw [if_pos h0]; exact ⟨⟨rfl, rfl⟩, rfl⟩
  · rw [if_neg h0]
    by_cases h1 : r ≤ sdraw (schance (s 7 15)) 10
    · rw [if_pos h1]; exact e _
    · rw [if_neg h1, aput_ne (by decide), aput_ne (by decide)]; exact e _
theorem spnA_st (loft r : Int32) : ∀ n k a b, k + n ≤ D → loft = swait a 7 D → NW a b D Y C → ST D Y C a b (sfold (spn 7 loft r) n k a) (sfold (rgn r) n k b) := by
  intro n
  induction n with
  | zero => intro k a b _ _ g; exact ST.rf g
  | succ n ih =>
    intro k a b hk e g
    have g1 := spn_st g (k := k) (r := r) (by omega) e
    have q := spn_same loft r k a
    exact g1.tr (ih (k + 1) _ _ (by omega) (by rw [wait_same q.1 q.2]; exact e) g1.1)
theorem night_st (h : NW s t D Y C) (r : Int32) : ST D Y C s t (snight s 7 D r) (rgnaw t D r) := spnA_st _ r D 0 s t (by omega) rfl h
theorem nights_st (h : NW s t D Y C) (n r : Int32) : ST D Y C s t (sk_nights s D n r) (rnights t D n r) := ST.fold _ 0 s t (fun i a b _ _ g => night_st g r) h
theorem S_rats (h : RP s t D Y C L W) (n r : Int32) : SIM s t D Y (sk_rats s D n r) (rk_rats t D n r) := by
  unfold sk_rats rk_rats
  by_cases h1 : n < 1
  · rw [if_pos h1, if_pos (rini_le.mpr (Or.inl h1))]; exact SIM.st h rfl
  · rw [if_neg h1]
    by_cases h2 : 99 < n
    · rw [if_pos h2, if_pos (rini_le.mpr (Or.inr h2))]; exact SIM.st h rfl
    · rw [if_neg h2, if_neg (fun q : rini n 1 99 = 0 => by rcases rini_le.mp q with q | q; exact h1 q; exact h2 q)]
      by_cases h3 : r < 0
      · rw [if_pos h3, if_pos (rini_le.mpr (Or.inl h3))]; exact SIM.st h rfl
      · rw [if_neg h3]
        by_cases h4 : r ≤ 10
        · rw [if_pos h4, if_neg (fun q : rini r 0 10 = 0 => by rcases rini_le.mp q with q | q; exact h3 q; exact absurd h4 (Int32.not_le.mpr q))]
          have g := nights_st h.nw n r
          exact ⟨bless_eq g.1.1 g.1.2.1 h.hD h.hY, g.2.1, g.2.2, g.1.1⟩
        · rw [if_neg h4, if_pos (rini_le.mpr (Or.inr (Int32.not_le.mp h4)))]; exact SIM.st h rfl
/-! who is first -/
def unq (s t : zmem) (X C a : Nat) : Nat := if wt t X 32 (Int32.ofNat a) = 0 then cnq s 7 C a + 1000000000000000000 else cnq s 7 C a
theorem urg_eq {X : Nat} (h : PR s 7 t X D Y) (hD : D ≤ 7) (hc : CL s t C) (hC : C ≤ 4) {a : Nat} (ha : a < D) : surg s 7 3 C (Int32.ofNat a) = Int64.ofNat (unq s t X C a) ∧ unq s t X C a < 2000000000000000000 := by
  have h1 := cnq_lt h hD hc hC ha
  unfold surg unq
  rw [h.boards hD ha, claim_eq h hD hc hC ha]
  by_cases e : wt t X 32 (Int32.ofNat a) = 0
  · rw [if_pos e, if_pos e]
    refine ⟨?_, by omega⟩
    rw [Int64.ofNat_add]; rfl
  · rw [if_neg e, if_neg e]
    exact ⟨rfl, by omega⟩
theorem unq_inj {X a b : Nat} (ha : a < 7) (hb : b < 7) (h : unq s t X C a = unq s t X C b) : a = b := by
  unfold unq cnq at h
  by_cases e1 : wt t X 32 (Int32.ofNat a) = 0 <;> by_cases e2 : wt t X 32 (Int32.ofNat b) = 0
  · rw [if_pos e1, if_pos e2] at h; omega
  · rw [if_pos e1, if_neg e2] at h; omega
  · rw [if_neg e1, if_pos e2] at h; omega
  · rw [if_neg e1, if_neg e2] at h; omega
theorem ah_lt {X : Nat} (h : PR s 7 t X D Y) (hD : D ≤ 7) (hc : CL s t C) (hC : C ≤ 4) {a b : Nat} (ha : a < D) (hb : b < D) : ¬ rah t X C (Int32.ofNat a) (Int32.ofNat b) = 0 ↔ unq s t X C b < unq s t X C a := by
  have u := urg_lt h hD hc hC ha hb
  have e1 := urg_eq h hD hc hC ha
  have e2 := urg_eq h hD hc hC hb
  rw [e1.1, e2.1, lg_cmp_le, n64_le (by omega) (by omega)] at u
  rw [← u]
  omega
theorem sum01 {c : Nat → Int32} : ∀ n k x, (∀ i, k ≤ i → i < k + n → c i = 0 ∨ c i = 1) → x + n < 2147483648 → ∃ N, N ≤ n ∧ sfold (fun k s => s + c k) n k (Int32.ofNat x) = Int32.ofNat (x + N) ∧ (N = 0 ↔ ∀ i, k ≤ i → i < k + n → c i = 0) := by
  intro n
  induction n with
  | zero => intro k x _ _; exact ⟨0, Nat.le_refl _, rfl, ⟨fun _ i h1 h2 => by omega, fun _ => rfl⟩⟩
  | succ n ih =>
    intro k x h hx
    rcases h k (Nat.le_refl _) (by omega) with e | e
    · obtain ⟨N, h1, h2, h3⟩ := ih (k + 1) x (fun i p q => h i (by omega) (by omega)) (by omega)
      refine ⟨N, by omega, ?_, ?_⟩
      · show sfold _ n (k + 1) (Int32.ofNat x + c k) = _
        rw [e, Int32.add_zero]; exact h2
      · rw [h3]
        constructor
        · intro q i p1 p2
          by_cases z : i = k
          · rw [z]; exact e
          · exact q i (by omega) (by omega)
        · intro q i p1 p2; exact q i (by omega) (by omega)
    · obtain ⟨N, h1, h2, h3⟩ := ih (k + 1) (x + 1) (fun i p q => h i (by omega) (by omega)) (by omega)
      refine ⟨N + 1, by omega, ?_, ?_⟩
      · show sfold _ n (k + 1) (Int32.ofNat x + c k) = _
        rw [e, nat_succ, h2]
        congr 1
        omega
      · constructor
        · intro q; omega
        · intro q
          have := q k (Nat.le_refl _) (by omega)
          rw [e] at this
          exact absurd this (by decide)
theorem place0 {X : Nat} (h : PR s 7 t X D Y) (hD : D ≤ 7) (hY : Y ≤ 8) (hc : CL s t C) (hC : C ≤ 4) {a : Nat} (ha : a < D) : rplace t X C D (Int32.ofNat a) = 0 ↔ ∀ k, k < D → inl t X k = true → unq s t X C k ≤ unq s t X C a := by
  unfold rplace
  have h01 : ∀ i, 0 ≤ i → i < 0 + D → rplc t X C (Int32.ofNat a) i = 0 ∨ rplc t X C (Int32.ofNat a) i = 1 := fun i _ _ => by
    unfold rplc
    by_cases e1 : Int32.ofNat i = Int32.ofNat a
    · rw [if_pos e1]; exact Or.inl rfl
    · rw [if_neg e1]
      by_cases e2 : rlf t X (Int32.ofNat i) = 0
      · rw [if_pos e2]; exact Or.inl rfl
      · rw [if_neg e2]
        by_cases e3 : rah t X C (Int32.ofNat i) (Int32.ofNat a) = 0
        · rw [if_pos e3]; exact Or.inl rfl
        · rw [if_neg e3]; exact Or.inr rfl
  obtain ⟨N, hN, e, hz⟩ := sum01 D 0 0 h01 (by omega)
  have e' : sfold (fun k s => s + rplc t X C (Int32.ofNat a) k) D 0 0 = Int32.ofNat (0 + N) := e
  rw [e']
  have : Int32.ofNat (0 + N) = 0 ↔ N = 0 := by
    constructor
    · intro q
      have := (n_eq (a := 0 + N) (b := 0) (by omega) (by decide)).mp q
      omega
    · intro q; rw [q]; rfl
  rw [this, hz]
  have key : ∀ i, i < D → (rplc t X C (Int32.ofNat a) i = 0 ↔ (inl t X i = true → unq s t X C i ≤ unq s t X C a)) := by
    intro i hi
    have u := ah_lt h hD hc hC hi ha
    unfold rplc
    by_cases e1 : Int32.ofNat i = Int32.ofNat a
    · rw [if_pos e1]
      have : i = a := ofNat_inj e1 (by omega) (by omega)
      subst this
      exact ⟨fun _ _ => Nat.le_refl _, fun _ => rfl⟩
    · rw [if_neg e1, h.lf hD hY hi]
      by_cases e2 : inl t X i = true
      · rw [if_pos e2, if_neg (by decide)]
        by_cases e3 : rah t X C (Int32.ofNat i) (Int32.ofNat a) = 0
        · rw [if_pos e3]
          exact ⟨fun _ _ => Nat.not_lt.mp (fun z => u.mpr z e3), fun _ => rfl⟩
        · rw [if_neg e3]
          have := u.mp e3
          exact ⟨fun z => absurd z (by decide), fun z => absurd (z e2) (by omega)⟩
      · rw [if_neg e2, if_pos rfl]
        exact ⟨fun _ z => absurd z e2, fun _ => rfl⟩
  constructor
  · intro q k hk; exact (key k hk).mp (q k (Nat.zero_le _) (by omega))
  · intro q k _ hk; exact (key k (by omega)).mpr (q k (by omega))
theorem sfind_none {c : Nat → Bool} : ∀ n k, (∀ i, k ≤ i → i < k + n → c i = false) → sfind c n k = -1 := by
  intro n
  induction n with
  | zero => intro k _; rfl
  | succ n ih =>
    intro k h
    show (if c k = true then _ else sfind c n (k + 1)) = -1
    rw [h k (Nat.le_refl _) (by omega), ih (k + 1) (fun i p q => h i (by omega) (by omega))]
    rfl
theorem sfind_at {c : Nat → Bool} {j : Nat} (hj : c j = true) : ∀ n k, k ≤ j → j < k + n → (∀ i, k ≤ i → i < j → c i = false) → sfind c n k = Int32.ofNat j := by
  intro n
  induction n with
  | zero => intro k h1 h2 _; omega
  | succ n ih =>
    intro k h1 h2 h
    show (if c k = true then _ else sfind c n (k + 1)) = _
    by_cases e : k = j
    · subst e; rw [if_pos hj]
    · rw [h k (Nat.le_refl _) (by omega)]
      exact ih (k + 1) (by omega) (by omega) (fun i p q => h i (by omega) (by omega))
theorem first_ex {X : Nat} (h : PR s 7 t X D Y) (hp : s 7 1 = Int32.ofNat D) (hD : D ≤ 7) (hY : Y ≤ 8) (hc : CL s t C) (hC : C ≤ 4) : ((sfirst s 7 3 C D (swait s 7 D)).1 = -1 ∧ ∀ k, k < D → ¬ inl t X k = true) ∨ ∃ k, k < D ∧ inl t X k = true ∧ (sfirst s 7 3 C D (swait s 7 D)).1 = Int32.ofNat k ∧ ∀ j, j < D → inl t X j = true → unq s t X C j ≤ unq s t X C k := by
  have key : ∀ n k (x : Int32 × Int64), k + n ≤ D → ((x = (-1, -1) ∧ ∀ j, j < k → ¬ inl t X j = true) ∨ ∃ i, i < k ∧ inl t X i = true ∧ x = (Int32.ofNat i, Int64.ofNat (unq s t X C i)) ∧ ∀ j, j < k → inl t X j = true → unq s t X C j ≤ unq s t X C i) → (let y := sfold (fun k s' => if shas (swait s 7 D) (Int32.ofNat k) = 0 then s' else if lg_cmp (surg s 7 3 C (Int32.ofNat k)) s'.2 ≤ 0 then s' else (Int32.ofNat k, surg s 7 3 C (Int32.ofNat k))) n k x; ((y = (-1, -1) ∧ ∀ j, j < k + n → ¬ inl t X j = true) ∨ ∃ i, i < k + n ∧ inl t X i = true ∧ y = (Int32.ofNat i, Int64.ofNat (unq s t X C i)) ∧ ∀ j, j < k + n → inl t X j = true → unq s t X C j ≤ unq s t X C i)) := by
    intro n
    induction n with
    | zero => intro k x _ hx; exact hx
    | succ n ih =>
      intro k x hk hx
      have hkD : k < D := by omega
      have e1 := urg_eq h hD hc hC hkD
      have step := ih (k + 1) (if shas (swait s 7 D) (Int32.ofNat k) = 0 then x else if lg_cmp (surg s 7 3 C (Int32.ofNat k)) x.2 ≤ 0 then x else (Int32.ofNat k, surg s 7 3 C (Int32.ofNat k))) (by omega) ?_
      · rw [show k + 1 + n = k + (n + 1) by omega] at step
        exact step
      · rw [has_wait h hp hD hkD]
        by_cases e2 : inl t X k = true
        · rw [if_pos e2, if_neg (by decide), e1.1]
          rcases hx with ⟨rfl, hn⟩ | ⟨i, hi, hin, rfl, hm⟩
          · have : ¬ lg_cmp (Int64.ofNat (unq s t X C k)) (-1) ≤ 0 := by
              rw [lg_cmp_le, Int64.le_iff_toInt_le, i64 (by omega)]
              show ¬ (_ : Int) ≤ -1
              omega
            rw [if_neg this]
            refine Or.inr ⟨k, by omega, e2, rfl, fun j hj hji => ?_⟩
            by_cases z : j = k
            · subst z; exact Nat.le_refl _
            · exact absurd hji (hn j (by omega))
          · have e3 := urg_eq h hD hc hC (show i < D by omega)
            have q : lg_cmp (Int64.ofNat (unq s t X C k)) (Int64.ofNat (unq s t X C i)) ≤ 0 ↔ unq s t X C k ≤ unq s t X C i := by rw [lg_cmp_le, n64_le (by omega) (by omega)]
            by_cases e4 : unq s t X C k ≤ unq s t X C i
            · rw [if_pos (q.mpr e4)]
              refine Or.inr ⟨i, by omega, hin, rfl, fun j hj hji => ?_⟩
              by_cases z : j = k
              · subst z; exact e4
              · exact hm j (by omega) hji
            · rw [if_neg (fun z => e4 (q.mp z))]
              refine Or.inr ⟨k, by omega, e2, rfl, fun j hj hji => ?_⟩
              by_cases z : j = k
              · subst z; exact Nat.le_refl _
              · have := hm j (by omega) hji; omega
        · rw [if_neg e2, if_pos rfl]
          rcases hx with ⟨rfl, hn⟩ | ⟨i, hi, hin, rfl, hm⟩
          · refine Or.inl ⟨rfl, fun j hj => ?_⟩
            by_cases z : j = k
            · subst z; exact e2
            · exact hn j (by omega)
          · refine Or.inr ⟨i, by omega, hin, rfl, fun j hj hji => ?_⟩
            by_cases z : j = k
            · subst z; exact absurd hji e2
            · exact hm j (by omega) hji
  have q := key D 0 (-1, -1) (by omega) (Or.inl ⟨rfl, fun j hj => by omega⟩)
  rw [Nat.zero_add] at q
  rcases q with ⟨e, hn⟩ | ⟨i, hi, hin, e, hm⟩
  · refine Or.inl ⟨?_, hn⟩
    unfold sfirst
    rw [e]
  · refine Or.inr ⟨i, hi, hin, ?_, hm⟩
    unfold sfirst
    rw [e]
theorem order0 {X : Nat} (h : PR s 7 t X D Y) (hp : s 7 1 = Int32.ofNat D) (hD : D ≤ 7) (hY : Y ≤ 8) (hc : CL s t C) (hC : C ≤ 4) : rorder t X C D 0 = (sfirst s 7 3 C D (swait s 7 D)).1 := by
  have lf0 : ∀ k, k < D → (¬ rlf t X (Int32.ofNat k) = 0 ↔ inl t X k = true) := fun k hk => by
    rw [h.lf hD hY hk]
    by_cases e : inl t X k = true <;> simp [e]
  rcases first_ex h hp hD hY hc hC with ⟨e, hn⟩ | ⟨k, hk, hin, e, hm⟩
  · rw [e]
    refine sfind_none D 0 (fun i _ hi => ?_)
    unfold rordc
    exact decide_eq_false (fun q => hn i (by omega) ((lf0 i (by omega)).mp q.1))
  · rw [e]
    refine sfind_at ?_ D 0 (Nat.zero_le _) (by omega) (fun i _ hi => ?_)
    · unfold rordc
      exact decide_eq_true ⟨(lf0 k hk).mpr hin, (place0 h hD hY hc hC hk).mpr hm⟩
    · unfold rordc
      refine decide_eq_false (fun q => ?_)
      have hi2 : i < D := by omega
      have h1 := (place0 h hD hY hc hC hi2).mp q.2 k hk hin
      have h2 := hm i hi2 ((lf0 i hi2).mp q.1)
      have := unq_inj (s := s) (t := t) (X := X) (C := C) (a := i) (b := k) (by omega) (by omega) (by omega)
      omega
end SP
/-! spring -/
theorem small8 {x : Int32} (h : ∀ k, 8 ≤ k → k < 32 → bt x k = false) : ∃ n, n < 256 ∧ x = Int32.ofNat n := by
  have e : x = x &&& 255 := by
    apply bt_ext
    intro k hk
    have tab : ∀ k, k < 32 → bt 255 k = decide (k < 8) := by decide +kernel
    rw [bt_and, tab k hk]
    by_cases e : k < 8
    · simp [e]
    · simp [e, h k (by omega) hk]
  have hl : (x &&& 255).toBitVec.toNat ≤ 255 := by
    have e1 : (x &&& 255).toBitVec.toNat = x.toBitVec.toNat &&& 255 := by simp
    rw [e1]
    exact Nat.and_le_right
  exact ⟨(x &&& 255).toBitVec.toNat, by omega, e.trans (ofNat_bv _).symm⟩
theorem ntz_tab : ∀ n, n < 256 → (n = 0 ∨ ∃ i, i < 8 ∧ sntz (Int32.ofNat n) = Int32.ofNat i ∧ bt (Int32.ofNat n) i = true ∧ ∀ j, j < i → bt (Int32.ofNat n) j = false) := by decide +kernel
section SPR
variable {s t s' t' : zmem} {D Y C L W : Nat}
theorem bt_ssf (h : PR s 7 t 0 D Y) (hD : D ≤ 7) (hY : Y ≤ 8) {j : Nat} (hj : j < 31) : bt (ssf s 7 D Y) j = (decide (j < Y) && decide (wt t 0 0 (Int32.ofNat j) = 0 ∧ ¬ 0 ≤ rwho t 0 D (Int32.ofNat j))) := by
  unfold ssf
  rw [bt_and, bt_not _ (by omega), bt_ssoft h hY (by omega)]
  have tk : bt (staken s 7 D) j = decide (0 ≤ rwho t 0 D (Int32.ofNat j)) := by
    have := bt_taken h hD hY hj
    rw [← who_pos t 0 hD] at this
    by_cases e : 0 ≤ rwho t 0 D (Int32.ofNat j)
    · rw [this.mpr e]; simp [e]
    · rw [Bool.eq_false_iff.mpr (fun q => e (this.mp q))]; simp [e]
  rw [tk]
  by_cases e1 : j < Y <;> by_cases e2 : wt t 0 0 (Int32.ofNat j) = 0 <;> by_cases e3 : 0 ≤ rwho t 0 D (Int32.ofNat j) <;> simp [e1, e2, e3]
theorem least_ex (h : PR s 7 t 0 D Y) (hD : D ≤ 7) (hY : Y ≤ 8) : (ssf s 7 D Y = 0 ∧ rleast t D Y = -1) ∨ (¬ ssf s 7 D Y = 0 ∧ ∃ i, i < Y ∧ sntz (ssf s 7 D Y) = Int32.ofNat i ∧ rleast t D Y = Int32.ofNat i ∧ ¬ 0 ≤ rwho t 0 D (Int32.ofNat i)) := by
  have hi : ∀ k, 8 ≤ k → k < 32 → bt (ssf s 7 D Y) k = false := fun k h1 h2 => by
    unfold ssf
    rw [bt_and, bt_ssoft h hY h2]
    have : ¬ k < Y := by omega
    simp [this]
  obtain ⟨n, hn, e⟩ := small8 hi
  rcases ntz_tab n hn with z | ⟨i, hi8, e1, e2, e3⟩
  · left
    subst z
    refine ⟨e, sfind_none Y 0 (fun i _ hi => ?_)⟩
    have b := bt_ssf h hD hY (j := i) (by omega)
    rw [e] at b
    have : bt (Int32.ofNat 0) i = false := bt_zero i
    rw [this] at b
    have hiY : i < Y := by omega
    simp only [hiY, decide_true, Bool.true_and] at b
    exact b.symm
  · right
    rw [← e] at e1 e2 e3
    have b := bt_ssf h hD hY (j := i) (by omega)
    rw [e2] at b
    have b1 := (Bool.and_eq_true _ _).mp b.symm
    have hiY := of_decide_eq_true b1.1
    have hc := of_decide_eq_true b1.2
    refine ⟨fun q => ?_, i, hiY, e1, ?_, hc.2⟩
    · rw [q, bt_zero] at e2; cases e2
    · refine sfind_at b1.2 Y 0 (Nat.zero_le _) (by omega) (fun j _ hj => ?_)
      have b2 := bt_ssf h hD hY (j := j) (by omega)
      rw [e3 j hj] at b2
      have hjY : j < Y := by omega
      simp only [hjY, decide_true, Bool.true_and] at b2
      exact b2.symm
theorem spd_stay {D Y C : Nat} {t : zmem} (h : rspd D Y C 0 t = t) : ∀ n k, sfold (rspd D Y C) n k t = t := by
  intro n
  induction n with
  | zero => intro k; rfl
  | succ n ih =>
    intro k
    show sfold (rspd D Y C) n (k + 1) (rspd D Y C k t) = t
    rw [show rspd D Y C k t = t from h]
    exact ih (k + 1)
theorem use_st (D Y C : Nat) : ∀ n k s t, NW s t D Y C → ST D Y C s t (suse D Y C n s) (sfold (rspd D Y C) n k t) := by
  intro n
  induction n with
  | zero => intro k s t h; exact ST.rf h
  | succ n ih =>
    intro k s t h
    have hD := h.2.2.2.2.2.1
    have hY := h.2.2.2.2.2.2.1
    have hC := h.2.2.2.2.2.2.2
    have o := order0 h.1 h.2.1 hD hY h.2.2.2.2.1 hC
    have stay : rspd D Y C 0 t = t → ST D Y C s t s (sfold (rspd D Y C) (n + 1) k t) := fun q => by rw [spd_stay q]; exact ST.rf h
    show ST D Y C s t (if (sfirst s 7 3 C D (swait s 7 D)).1 = -1 then s else if ¬ ssf s 7 D Y = 0 then suse D Y C n (slay s 7 (sfirst s 7 3 C D (swait s 7 D)).1 (sntz (ssf s 7 D Y))) else s) (sfold (rspd D Y C) (n + 1) k t)
    rcases first_ex h.1 h.2.1 hD hY h.2.2.2.2.1 hC with ⟨e, hn⟩ | ⟨a, ha, hin, e, hm⟩
    · rw [if_pos e]
      refine stay ?_
      unfold rspd
      rw [o, e, if_pos (by decide)]
    · rw [if_neg (by rw [e]; exact fun q => by have := n_lt0 (k := a) (by omega); rw [q] at this; exact this (by decide))]
      rcases least_ex h.1 hD hY with ⟨e1, e2⟩ | ⟨e1, i, hi, e2, e3, e4⟩
      · rw [if_neg (fun q => q e1)]
        refine stay ?_
        unfold rspd
        rw [o, e, if_neg (n_lt0 (by omega)), e2, if_neg (by decide)]
      · rw [if_pos e1, e, e2]
        show ST D Y C s t _ (sfold (rspd D Y C) n (k + 1) (rspd D Y C k t))
        have er : rspd D Y C k t = rlaym t 0 (Int32.ofNat a) (Int32.ofNat i) := by
          unfold rspd
          rw [o, e, if_neg (n_lt0 (by omega)), e3, if_pos (Int32.not_lt.mp (n_lt0 (by omega)))]
        rw [er]
        have g : ST D Y C s t (slay s 7 (Int32.ofNat a) (Int32.ofNat i)) (rlaym t 0 (Int32.ofNat a) (Int32.ofNat i)) := ST.mk' h (FC.lay _ _) (FT.lay (by omega) (by omega)) (h.1.lay hD hY ha hi (fun m hm e => e4 ((who_pos t 0 hD _).mpr ⟨m, hm, e⟩)))
        exact g.tr (ih (k + 1) _ _ g.1)
theorem draw12 {c : Int32} (h : 0 ≤ c) : ¬ srem (c / 65536) 12 - 3 < -9 := by
  obtain ⟨a, ha, rfl⟩ := nat_of (n := 2147483647) (by decide) h (by
    rw [Int32.le_iff_toInt_le]
    exact Int32.toInt_le c)
  have e : ∀ x y, x < 2147483648 → 0 < y → y < 2147483648 → Int32.ofNat x / Int32.ofNat y = Int32.ofNat (x / y) := fun x y hx hy hy2 => by
    have hd : x / y ≤ x := Nat.div_le_self x y
    rw [← Int32.toInt_inj, Int32.toInt_div, i32 hx, i32 hy2, i32 (by omega), Int.tdiv_eq_ediv_of_nonneg (by omega), Int.bmod_def]
    have : ((x : Int) / (y : Int)) = ((x / y : Nat) : Int) := rfl
    rw [this]
    generalize x / y = q at hd ⊢
    split <;> omega
  have e1 : Int32.ofNat a / 65536 = Int32.ofNat (a / 65536) := e a 65536 (by omega) (by decide) (by decide)
  unfold srem
  rw [e1]
  have e2 : Int32.ofNat (a / 65536) / 12 = Int32.ofNat (a / 65536 / 12) := e _ 12 (by omega) (by decide) (by decide)
  rw [e2]
  have e3 : Int32.ofNat (a / 65536) - Int32.ofNat (a / 65536 / 12) * 12 = Int32.ofNat (a / 65536 % 12) := by
    have q : Int32.ofNat (a / 65536 % 12) + Int32.ofNat (a / 65536 / 12) * 12 = Int32.ofNat (a / 65536) := by
      rw [show (12 : Int32) = Int32.ofNat 12 from rfl, ← Int32.ofNat_mul, ← Int32.ofNat_add]
      congr 1
      omega
    rw [← q]
    grind
  rw [e3]
  have tab : ∀ r, r < 12 → ¬ Int32.ofNat r - 3 < -9 := by decide +kernel
  exact tab _ (Nat.mod_lt _ (by decide))
theorem spr1_st (h : NW s t D Y C) : ST D Y C s t (sspr1 s D Y) (rspr1 t D Y) := by
  unfold sspr1 rspr1 sspr0
  have g := draw_st h
  rw [draw_eq h (by decide)]
  have hc := h.ch
  have g2 := day_st g.1 (hh := rdv t 12 - 3) (by unfold rdv; exact draw12 (chance_eq hc.2).2)
  exact (g.tr g2).tr (night_st g2.1 2)
theorem spr_st (h : NW s t D Y C) (n k : Int32) : ST D Y C s t (ssprm s D Y C n k) (rsprm t D Y C n k) := ST.fold _ 0 s t (fun i a b _ _ g => by
  have g1 := spr1_st g
  exact g1.tr (use_st D Y C _ 0 _ _ g1.1)) h
theorem ones_tab : ∀ n, n < 256 → spop (Int32.ofNat n) = rones (Int32.ofNat n) := by decide +kernel
theorem pop_eq {x : Int32} (h : ∀ k, 8 ≤ k → k < 32 → bt x k = false) : spop x = rones x := by
  obtain ⟨n, hn, rfl⟩ := small8 h
  exact ones_tab n hn
theorem laid_pop (h : NW s t D Y C) : spop (slaid s 7 D) = rones (rlaid t 0 D) := by
  have hD := h.2.2.2.2.2.1
  have hY := h.2.2.2.2.2.2.1
  rw [laid_eq h.1 hD hY, pop_eq (fun k h1 h2 => by
    rw [bt_rlaid h.1 hD hY h2]
    have : ¬ k < D := by omega
    simp [this])]
theorem S_spring (h : RP s t D Y C L W) (n k : Int32) : SIM s t D Y (sk_spring s D Y C n k) (rk_spring t D Y C n k) := by
  unfold sk_spring rk_spring
  by_cases h1 : n < 1
  · rw [if_pos h1, if_pos (rini_le.mpr (Or.inl h1))]; exact SIM.st h rfl
  · rw [if_neg h1]
    by_cases h2 : 99 < n
    · rw [if_pos h2, if_pos (rini_le.mpr (Or.inr h2))]; exact SIM.st h rfl
    · rw [if_neg h2, if_neg (fun q : rini n 1 99 = 0 => by rcases rini_le.mp q with q | q; exact h1 q; exact h2 q)]
      by_cases h3 : k < 0
      · rw [if_pos h3, if_pos (rini_le.mpr (Or.inl h3))]; exact SIM.st h rfl
      · rw [if_neg h3]
        by_cases h4 : k ≤ 9
        · rw [if_pos h4, if_neg (fun q : rini k 0 9 = 0 => by rcases rini_le.mp q with q | q; exact h3 q; exact absurd h4 (Int32.not_le.mpr q))]
          have g := spr_st h.nw n k
          exact ⟨laid_pop g.1, g.2.1, g.2.2, g.1.1⟩
        · rw [if_neg h4, if_pos (rini_le.mpr (Or.inr (Int32.not_le.mp h4)))]; exact SIM.st h rfl
end SPR
/-! when, span, churches -/
section MI
variable {s t s' t' : zmem} {D Y C L W : Nat}
theorem rate_ex (h : RP s t D Y C L W) {v : Nat} (hv : v ≤ 9) {j : Nat} (hj : j < 8) : ∃ r, r ≤ 891 ∧ rrate t (Int32.ofNat v) (Int32.ofNat j) = Int32.ofNat r := by
  obtain ⟨-, -, b1, b2, b3, b4⟩ := h.2.2.2.1
  obtain ⟨a, ha, ea⟩ := nat_of (n := 99) (by decide) b1 b2
  obtain ⟨b, hb, eb⟩ := nat_of (n := 99) (by decide) b3 b4
  unfold rrate
  rw [ea, eb, ← Int32.ofNat_mul, ← Int32.ofNat_mul]
  have h1 : v * a ≤ 9 * 99 := Nat.mul_le_mul hv ha
  have h2 : b * j ≤ 99 * 8 := Nat.mul_le_mul hb (by omega)
  by_cases e : Int32.ofNat (v * a) - Int32.ofNat (b * j) ≤ 0
  · rw [if_pos e]; exact ⟨0, by omega, rfl⟩
  · rw [if_neg e]
    rw [n_suble (by omega) (by omega)] at e
    refine ⟨v * a - b * j, by omega, ?_⟩
    rw [← Int32.toInt_inj, n_sub (by omega) (by omega), i32 (by omega)]
    omega
theorem n_div {x y : Nat} (hx : x < 2147483648) (hy : 0 < y) (hy2 : y < 2147483648) : Int32.ofNat x / Int32.ofNat y = Int32.ofNat (x / y) := by
  have hd : x / y ≤ x := Nat.div_le_self x y
  rw [← Int32.toInt_inj, Int32.toInt_div, i32 hx, i32 hy2, i32 (by omega), Int.tdiv_eq_ediv_of_nonneg (by omega), Int.bmod_def]
  have : ((x : Int) / (y : Int)) = ((x / y : Nat) : Int) := rfl
  rw [this]
  generalize x / y = q at hd ⊢
  split <;> omega
theorem behind_eq (h : RP s t D Y C L W) {v : Nat} (hv : v ≤ 9) {k : Nat} (hk : k < 1000) : sbehind s 7 D Y (Int32.ofNat k) (Int32.ofNat v) = rsbn t D Y (Int32.ofNat v) k := by
  unfold sbehind rsbn
  refine sfold_congr Y 0 _ (fun j st _ hj => ?_)
  have hj : j < Y := by omega
  have hY := h.hY
  have tw := taken_who h.p h.hD hY (i := j) (by omega)
  unfold rsb
  by_cases e : 0 ≤ rwho t 0 D (Int32.ofNat j)
  · rw [if_pos (tw.mpr e), if_pos e, Int32.add_zero]
  · rw [if_neg (fun q => e (tw.mp q)), if_neg e, thaw_eq h.nw, h.p.frost hY hj]
    obtain ⟨r, hr, er⟩ := rate_ex h hv (j := j) (by omega)
    obtain ⟨f, hf, ef⟩ := fr_ex h.nw hj
    unfold rdt
    rw [er, ef, ← Int32.ofNat_mul]
    have hkr : k * r ≤ 1000 * 891 := Nat.mul_le_mul (by omega) hr
    have lt : Int32.ofNat (k * r) < Int32.ofNat f ↔ k * r < f := n_lt (by omega) (by omega)
    by_cases f0 : f = 0
    · subst f0
      rw [if_neg (fun z => by have := lt.mp z; omega), if_pos (show Int32.ofNat 0 = 0 from rfl), if_neg (n_lt0 (by omega))]
    · rw [if_neg (fun q : Int32.ofNat f = 0 => f0 ((n_eq (b := 0) (by omega) (by decide)).mp q))]
      by_cases r0 : r = 0
      · subst r0
        rw [if_pos (lt.mpr (by omega)), if_pos (show Int32.ofNat 0 = 0 from rfl), if_pos (show Int32.ofNat k < 1000 from (n_lt (b := 1000) (by omega) (by decide)).mpr hk), Int32.add_zero]
      · rw [if_neg (fun q : Int32.ofNat r = 0 => r0 ((n_eq (b := 0) (by omega) (by decide)).mp q))]
        have e1 : Int32.ofNat f + Int32.ofNat r - 1 = Int32.ofNat (f + r - 1) := by
          have : Int32.ofNat (f + r - 1) + 1 = Int32.ofNat f + Int32.ofNat r := by
            rw [nat_succ, ← Int32.ofNat_add]
            congr 1
            omega
          rw [← this]
          grind
        rw [e1, n_div (by omega) (by omega) (by omega)]
        have hd : (f + r - 1) / r ≤ f + r - 1 := Nat.div_le_self _ _
        have key : k < (f + r - 1) / r ↔ k * r < f := by
          have := Nat.le_div_iff_mul_le (k := r) (x := k + 1) (y := f + r - 1) (by omega)
          rw [Nat.add_mul, Nat.one_mul] at this
          omega
        by_cases q : k * r < f
        · rw [if_pos (lt.mpr q), if_pos ((n_lt (by omega) (by omega)).mpr (key.mpr q)), Int32.add_zero]
        · rw [if_neg (fun z => q (lt.mp z)), if_neg (fun z => q (key.mp ((n_lt (by omega) (by omega)).mp z)))]
theorem until_eq (h : RP s t D Y C L W) {v : Int32} (h1 : ¬ v < 1) (h2 : v ≤ 9) (n : Int32) : suntil s 7 D Y n v = rwhen t D Y n v := by
  obtain ⟨a, ha, rfl⟩ := nat_of (n := 9) (by decide) (Int32.le_trans (by decide) (Int32.not_lt.mp h1)) h2
  unfold suntil rwhen
  refine sfind_congr 1000 0 (fun k _ hk => ?_)
  rw [behind_eq h ha (by omega)]
theorem S_when (h : RP s t D Y C L W) (n v : Int32) : SIM s t D Y (sk_when s D Y n v, s) (rk_when t D Y n v, t) := by
  refine SIM.st h ?_
  unfold sk_when rk_when
  by_cases h1 : n < 1
  · rw [if_pos h1, if_pos (rini_le.mpr (Or.inl h1))]
  · rw [if_neg h1]
    by_cases h2 : 8 < n
    · rw [if_pos h2, if_pos (rini_le.mpr (Or.inr h2))]
    · rw [if_neg h2, if_neg (fun q : rini n 1 8 = 0 => by rcases rini_le.mp q with q | q; exact h1 q; exact h2 q)]
      by_cases h3 : v < 1
      · rw [if_pos h3, if_pos (rini_le.mpr (Or.inl h3))]
      · rw [if_neg h3]
        by_cases h4 : v ≤ 9
        · rw [if_pos h4, if_neg (fun q : rini v 1 9 = 0 => by rcases rini_le.mp q with q | q; exact h3 q; exact absurd h4 (Int32.not_le.mpr q))]
          exact until_eq h h3 h4 n
        · rw [if_neg h4, if_pos (rini_le.mpr (Or.inr (Int32.not_le.mp h4)))]
theorem S_span (h : RP s t D Y C L W) (n a b w : Int32) : SIM s t D Y (sk_span s D Y n a b w, s) (rk_span t D Y n a b w, t) := by
  refine SIM.st h ?_
  unfold sk_span rk_span
  by_cases h1 : n < 1
  · rw [if_pos h1, if_pos (rini_le.mpr (Or.inl h1))]
  · rw [if_neg h1]
    by_cases h2 : 8 < n
    · rw [if_pos h2, if_pos (rini_le.mpr (Or.inr h2))]
    · rw [if_neg h2, if_neg (fun q : rini n 1 8 = 0 => by rcases rini_le.mp q with q | q; exact h1 q; exact h2 q)]
      by_cases h3 : a < 1
      · rw [if_pos h3, if_pos (rini_le.mpr (Or.inl h3))]
      · rw [if_neg h3]
        by_cases h4 : 9 < a
        · rw [if_pos h4, if_pos (rini_le.mpr (Or.inr h4))]
        · rw [if_neg h4, if_neg (fun q : rini a 1 9 = 0 => by rcases rini_le.mp q with q | q; exact h3 q; exact h4 q)]
          by_cases h5 : b < a
          · rw [if_pos h5, if_pos (rini_le.mpr (Or.inl h5))]
          · rw [if_neg h5]
            by_cases h6 : 9 < b
            · rw [if_pos h6, if_pos (rini_le.mpr (Or.inr h6))]
            · rw [if_neg h6, if_neg (fun q : rini b a 9 = 0 => by rcases rini_le.mp q with q | q; exact h5 q; exact h6 q)]
              by_cases h7 : w < 0
              · rw [if_pos h7, if_pos (rini_le.mpr (Or.inl h7))]
              · rw [if_neg h7]
                by_cases h8 : w ≤ 1
                · rw [if_pos h8, if_neg (fun q : rini w 0 1 = 0 => by rcases rini_le.mp q with q | q; exact h7 q; exact absurd h8 (Int32.not_le.mpr q))]
                  have hb1 : ¬ b < 1 := fun z => h3 (Int32.lt_of_le_of_lt (Int32.not_lt.mp h5) z)
                  by_cases h9 : w = 0
                  · rw [if_pos h9, if_pos h9]; exact until_eq h hb1 (Int32.not_lt.mp h6) n
                  · rw [if_neg h9, if_neg h9]; exact until_eq h h3 (Int32.not_lt.mp h4) n
                · rw [if_neg h8, if_pos (rini_le.mpr (Or.inr (Int32.not_le.mp h8)))]
theorem gap_fold (h : RP s t D Y C L W) (lf : Int32) {m : Nat} (hm : Int32.ofNat m &&& (lf ^^^ -1) = 0) : ∀ n k a b c, k + n ≤ D → c = a - b → sfold (fun k s' => if shas (Int32.ofNat m) (Int32.ofNat k) = 0 then s' else s' + aat 7 (s (7 + 2)) (Int32.ofNat k)) n k a - sfold (fun k s' => if shas (lf &&& (Int32.ofNat m ^^^ -1)) (Int32.ofNat k) = 0 then s' else s' + aat 7 (s (7 + 2)) (Int32.ofNat k)) n k b = sfold (rcs t lf m) n k c := by
  have hD := h.hD
  intro n
  induction n with
  | zero => intro k a b c _ e; exact e.symm
  | succ n ih =>
    intro k a b c hk e
    refine ih (k + 1) _ _ _ (by omega) ?_
    have q := congrArg (fun y => bt y k) hm
    simp only [bt_and, bt_not _ (show k < 32 by omega), bt_zero] at q
    show rcs t lf m k c = (if shas (Int32.ofNat m) (Int32.ofNat k) = 0 then a else a + aat 7 (s (7 + 2)) (Int32.ofNat k)) - (if shas (lf &&& (Int32.ofNat m ^^^ -1)) (Int32.ofNat k) = 0 then b else b + aat 7 (s (7 + 2)) (Int32.ofNat k))
    unfold rcs
    rw [h.p.rank hD (show k < D by omega), shas_bt _ (show k < 31 by omega), shas_bt _ (show k < 31 by omega), rhas_bt _ (show k < 32 by omega), rhas_bt _ (show k < 32 by omega), bt_and, bt_not _ (show k < 32 by omega)]
    subst e
    cases e1 : bt lf k <;> cases e2 : bt (Int32.ofNat m) k
    · simp
    · rw [e1, e2] at q; simp at q
    · simp; grind
    · simp; grind
theorem abs_eq (x : Int32) : sabs x = rsize x := rfl
theorem gap_eq (h : RP s t D Y C L W) (lf : Int32) {m : Nat} (hm : Int32.ofNat m &&& (lf ^^^ -1) = 0) : sk_gap s D lf (Int32.ofNat m) = rsize (rcsum t D lf m) := by
  unfold sk_gap rcsum sranks
  rw [gap_fold h lf hm D 0 0 0 0 (by omega) (by decide), abs_eq]
theorem sum_nn {c : Nat → Int32} : ∀ n k a, (∀ i, k ≤ i → i < k + n → ∃ b, b ≤ 99 ∧ c i = Int32.ofNat b) → a + 99 * n < 2147483648 → ∃ N, N ≤ a + 99 * n ∧ sfold (fun k s => s + c k) n k (Int32.ofNat a) = Int32.ofNat N := by
  intro n
  induction n with
  | zero => intro k a _ _; exact ⟨a, by omega, rfl⟩
  | succ n ih =>
    intro k a h hb
    obtain ⟨b, h1, e⟩ := h k (Nat.le_refl _) (by omega)
    obtain ⟨N, h2, e2⟩ := ih (k + 1) (a + b) (fun i p q => h i (by omega) (by omega)) (by omega)
    refine ⟨N, by omega, ?_⟩
    show sfold _ n (k + 1) (Int32.ofNat a + c k) = _
    rw [e, ← Int32.ofNat_add]
    exact e2
theorem rk_bd (h : RP s t D Y C L W) {k : Nat} (hk : k < D) : ∃ b, b ≤ 99 ∧ wt t 0 8 (Int32.ofNat k) = Int32.ofNat b := by
  have hD := h.hD
  rw [wt_k (by omega)]
  exact nat_of (n := 99) (by decide) (h.p.1 2 (Or.inr (Or.inl rfl)) k hk).2.1 (h.p.1 2 (Or.inr (Or.inl rfl)) k hk).2.2
theorem neg_fold {g : Nat → Int32} : ∀ n k a, sfold (fun k s => s + (0 - g k)) n k (0 - a) = 0 - sfold (fun k s => s + g k) n k a := by
  intro n
  induction n with
  | zero => intro k a; rfl
  | succ n ih =>
    intro k a
    show sfold _ n (k + 1) (0 - a + (0 - g k)) = 0 - sfold _ n (k + 1) (a + g k)
    rw [← ih, show 0 - a + (0 - g k) = 0 - (a + g k) by grind]
theorem size_neg {N : Nat} (h : N < 2147483648) : rsize (0 - Int32.ofNat N) = Int32.ofNat N := by
  unfold rsize
  by_cases e : N = 0
  · subst e; decide
  · have e1 : (0 - Int32.ofNat N).toInt = -(N : Int) := by
      rw [Int32.toInt_sub, i32 h, Int.bmod_def]
      show (if ((0 : Int) - N) % 2 ^ 32 < (2 ^ 32 + 1) / 2 then ((0 : Int) - N) % 2 ^ 32 else ((0 : Int) - N) % 2 ^ 32 - 2 ^ 32) = _
      split <;> omega
    rw [if_neg (fun q => by
      have := Int32.le_iff_toInt_le.mp q
      rw [e1] at this
      have z : (0 : Int32).toInt = 0 := rfl
      omega)]
    grind
/-- nobody in the first church: all are in the second -/
theorem sum0 (h : RP s t D Y C L W) (lf : Int32) : rsize (rcsum t D lf 0) = sranks s 7 D lf ∧ 0 ≤ sranks s 7 D lf := by
  have hD := h.hD
  have e1 : sranks s 7 D lf = sfold (fun k s' => s' + (if rhas lf (Int32.ofNat k) = 0 then 0 else wt t 0 8 (Int32.ofNat k))) D 0 0 := by
    unfold sranks
    refine sfold_congr D 0 _ (fun k st _ hk => ?_)
    have hk : k < D := by omega
    rw [h.p.rank hD hk, shas_bt _ (by omega), rhas_bt _ (by omega)]
    by_cases e : bt lf k = true
    · rw [if_pos e, if_neg (by decide), if_neg (by decide)]
    · rw [if_neg e, if_pos rfl, if_pos rfl, Int32.add_zero]
  have e2 : rcsum t D lf 0 = sfold (fun k s' => s' + (0 - (if rhas lf (Int32.ofNat k) = 0 then 0 else wt t 0 8 (Int32.ofNat k)))) D 0 (0 - 0) := by
    unfold rcsum
    refine sfold_congr D 0 _ (fun k st _ hk => ?_)
    have hk : k < D := by omega
    unfold rcs
    rw [rhas_bt _ (show k < 32 by omega), rhas_bt (Int32.ofNat 0) (show k < 32 by omega), show bt (Int32.ofNat 0) k = false from bt_zero k]
    by_cases e : bt lf k = true
    · simp [e]
    · simp [e]
  rw [neg_fold] at e2
  obtain ⟨N, hN, eN⟩ := sum_nn (c := fun k => if rhas lf (Int32.ofNat k) = 0 then 0 else wt t 0 8 (Int32.ofNat k)) D 0 0 (fun i _ hi => by
    by_cases e : rhas lf (Int32.ofNat i) = 0
    · exact ⟨0, by omega, if_pos e⟩
    · obtain ⟨b, hb, eb⟩ := rk_bd h (k := i) (by omega)
      exact ⟨b, hb, (if_neg e).trans eb⟩) (by omega)
  have eN' : sfold (fun k s' => s' + (if rhas lf (Int32.ofNat k) = 0 then 0 else wt t 0 8 (Int32.ofNat k))) D 0 0 = Int32.ofNat N := eN
  rw [e1, e2, eN', size_neg (by omega)]
  exact ⟨rfl, Int32.not_lt.mp (n_lt0 (by omega))⟩
theorem size_pos {N : Int32} (h : (-2147483648 : Int) < N.toInt) : 0 ≤ rsize N := by
  unfold rsize
  by_cases e : 0 ≤ N
  · rw [if_pos e]; exact e
  · rw [if_neg e]
    rw [Int32.le_iff_toInt_le] at e ⊢
    have z : (0 : Int32).toInt = 0 := rfl
    rw [Int32.toInt_sub, Int.bmod_def, z]
    rw [z] at e
    split <;> omega
theorem ch_fold (h : RP s t D Y C L W) (lf : Int32) {l : Nat} (hl : lf = Int32.ofNat l) (hl7 : l < 128) (hlD : lf = swait s 7 D) : ∀ n k x, k + n ≤ l + 1 → 0 ≤ x.2 → (sfold (sk_chi s D lf) n k x = sfold (rci t D lf) n k x) := by
  intro n
  induction n with
  | zero => intro k x _ _; rfl
  | succ n ih =>
    intro k x hk hx
    have e : sk_chi s D lf k x = rci t D lf k x ∧ 0 ≤ (rci t D lf k x).2 := by
      unfold sk_chi rci smsk
      by_cases e1 : Int32.ofNat k &&& (lf ^^^ -1) = 0
      · rw [if_neg (fun q : ¬ Int32.ofNat k &&& (lf ^^^ -1) = 0 => q e1), if_neg (fun q : ¬ Int32.ofNat k &&& (lf ^^^ -1) = 0 => q e1), if_neg (Int32.not_lt.mpr hx), gap_eq h lf e1]
        have hp : 0 ≤ rsize (rcsum t D lf k) := by
          rw [← gap_eq h lf e1]
          unfold sk_gap
          rw [abs_eq]
          refine size_pos ?_
          have b1 := (sum0 h (Int32.ofNat k))
          have b2 := (sum0 h (lf &&& (Int32.ofNat k ^^^ -1)))
          have z : (0 : Int32).toInt = 0 := rfl
          have p1 := Int32.le_iff_toInt_le.mp b1.2
          have p2 := Int32.le_iff_toInt_le.mp b2.2
          rw [z] at p1 p2
          have q1 := Int32.toInt_le (sranks s 7 D (Int32.ofNat k))
          have q2 := Int32.toInt_le (sranks s 7 D (lf &&& (Int32.ofNat k ^^^ -1)))
          have mv : Int32.maxValue.toInt = 2147483647 := by decide
          rw [mv] at q1 q2
          rw [Int32.toInt_sub, Int.bmod_def]
          split <;> omega
        by_cases e2 : x.2 ≤ rsize (rcsum t D lf k)
        · rw [if_pos e2]; exact ⟨rfl, hx⟩
        · rw [if_neg e2]; exact ⟨rfl, hp⟩
      · rw [if_pos (show ¬ Int32.ofNat k &&& (lf ^^^ -1) = 0 from e1), if_pos (show ¬ Int32.ofNat k &&& (lf ^^^ -1) = 0 from e1)]; exact ⟨rfl, hx⟩
    show sfold (sk_chi s D lf) n (k + 1) (sk_chi s D lf k x) = sfold (rci t D lf) n (k + 1) (rci t D lf k x)
    rw [e.1]
    exact ih (k + 1) _ (by omega) e.2
theorem sfold_app {α : Type} {f : Nat → α → α} : ∀ n m k s, sfold f (n + m) k s = sfold f m (k + n) (sfold f n k s) := by
  intro n
  induction n with
  | zero => intro m k s; rw [Nat.zero_add]; rfl
  | succ n ih =>
    intro m k s
    rw [show n + 1 + m = (n + m) + 1 by omega]
    show sfold f (n + m) (k + 1) (f k s) = sfold f m (k + (n + 1)) (sfold f n (k + 1) (f k s))
    rw [ih, show k + 1 + n = k + (n + 1) by omega]
theorem sub_tab : ∀ l, l < 128 → ∀ k, k < 128 → Int32.ofNat k &&& (Int32.ofNat l ^^^ -1) = 0 → k ≤ l := by decide +kernel
theorem ch_eq (h : RP s t D Y C L W) : sk_ch s D = rchs t D := by
  have hD := h.hD
  have hw := wait_eq h.p h.s1 hD h.hY
  obtain ⟨l, hl, el⟩ : ∃ l, l < 128 ∧ swait s 7 D = Int32.ofNat l := by
    have : swait s 7 D &&& ((sbit (Int32.ofNat 7) - 1) ^^^ -1) = 0 := by
      apply bt_ext
      intro k hk
      rw [bt_and, bt_not _ hk, bt_all 7 (by decide) k hk, bt_zero, bt_swait h.p h.s1 hD hk]
      by_cases e : k < D
      · have : k < 7 := by omega
        simp [this]
      · simp [e]
    obtain ⟨j, hj, e⟩ := (mark_iff (D := 7) (by decide) _).mp this
    exact ⟨j, hj, e⟩
  unfold sk_ch rchs
  rw [← hw]
  have s0 := sum0 h (swait s 7 D)
  have en : (swait s 7 D).toNatClampNeg = l := by rw [el, natc (by omega)]
  rw [en]
  have step0 : sfold (rci t D (swait s 7 D)) (l + 1) 0 (0, -1) = sfold (rci t D (swait s 7 D)) l 1 (0, sranks s 7 D (swait s 7 D)) := by
    show sfold (rci t D (swait s 7 D)) l 1 (rci t D (swait s 7 D) 0 (0, -1)) = _
    have : rci t D (swait s 7 D) 0 (0, -1) = (0, sranks s 7 D (swait s 7 D)) := by
      unfold rci
      have z : Int32.ofNat 0 &&& (swait s 7 D ^^^ -1) = 0 := by
        apply bt_ext
        intro k _
        rw [bt_and, show bt (Int32.ofNat 0) k = false from bt_zero k, bt_zero, Bool.false_and]
      rw [if_neg (fun q => q z), if_pos (show (-1 : Int32) < 0 by decide), s0.1]
      rfl
    rw [this]
  rw [step0, show 127 = l + (127 - l) by omega, sfold_app, ch_fold h (swait s 7 D) el hl rfl l 1 _ (by omega) s0.2]
  have skip : ∀ n k x, 1 + l ≤ k → k + n ≤ 128 → sfold (sk_chi s D (swait s 7 D)) n k x = x := by
    intro n
    induction n with
    | zero => intro k x _ _; rfl
    | succ n ih =>
      intro k x h1 h2
      have e : sk_chi s D (swait s 7 D) k x = x := by
        unfold sk_chi smsk
        refine if_pos (fun q => ?_)
        rw [el] at q
        have := sub_tab l hl k (by omega) q
        omega
      show sfold (sk_chi s D (swait s 7 D)) n (k + 1) (sk_chi s D (swait s 7 D) k x) = x
      rw [e]
      exact ih (k + 1) x (by omega) (by omega)
  exact skip _ _ _ (Nat.le_refl _) (by omega)
theorem S_churches (h : RP s t D Y C L W) (w : Int32) : SIM s t D Y (sk_churches s D w, s) (rk_churches t D w, t) := by
  refine SIM.st h ?_
  unfold sk_churches rk_churches
  by_cases h1 : w < 0
  · rw [if_pos h1, if_pos (rini_le.mpr (Or.inl h1))]
  · rw [if_neg h1]
    by_cases h2 : w ≤ 1
    · rw [if_pos h2, if_neg (fun q : rini w 0 1 = 0 => by rcases rini_le.mp q with q | q; exact h1 q; exact absurd h2 (Int32.not_le.mpr q)), ch_eq h]
      by_cases h3 : w = 0
      · rw [if_neg (fun q => q h3), if_pos h3]
      · rw [if_pos h3, if_neg h3]
    · rw [if_neg h2, if_pos (rini_le.mpr (Or.inr (Int32.not_le.mp h2)))]
end MI
