/-! the reference: layings one after the other -/
def runl (m : zmem) (D k : Nat) : Int32 := sfold (fun j s => if s = 0 then 0 else if m 69 j = m 69 k then 0 else 1) k 0 (rfree m D (m 69 k))
def rsk (m : zmem) (D k i : Nat) : Bool := decide (runl (mset m 69 k (Int32.ofNat i)) D k = 0)
def rnx (m : zmem) (D Y k i : Nat) : Nat := sskip (rsk m D k) (Y - i) i
def rfi (D Y k : Nat) (m : zmem) : zmem := mset m 69 k (Int32.ofNat (rnx m D Y k 0))
def rfill (D Y a b : Nat) (m : zmem) : zmem := sfold (rfi D Y) (b - a) a m
def rgox (D Y q : Nat) (m : zmem) : Nat := rnx m D Y q ((m 69 q).toNatClampNeg + 1)
def rgo (D Y n : Nat) : Nat → zmem → Int32 × zmem
  | 0, m => (0, m)
  | q + 1, m => if rgox D Y q m < Y then (1, rfill D Y (q + 1) n (mset m 69 q (Int32.ofNat (rgox D Y q m)))) else rgo D Y n q (mset m 69 q (Int32.ofNat (rgox D Y q m)))
def rth (k : Nat) (s : Nat × zmem) : Nat × zmem := if rlf s.2 0 (Int32.ofNat k) = 0 then s else (s.1 + 1, mset s.2 68 s.1 (Int32.ofNat k))
def rfm (m : zmem) (D : Nat) : Nat × zmem := sfold rth D 0 (0, rcopy m 0 100)
def rnfree (m : zmem) (D Y : Nat) : Int32 := sfold (fun k s => s + rfree m D (Int32.ofNat k)) Y 0 0
def rpl (k : Nat) (m : zmem) : zmem := wp m 100 40 (m 68 k) (m 69 k)
def rbc (k : Nat) (m : zmem) : zmem := mset m 70 k (m 69 k)
def rev1 (n : Nat) (m : zmem) : zmem := sfold rpl n 0 m
def rev2 (C D n : Nat) (m : zmem) : zmem := sfold rbc n 0 (mset m 57 25 (rquar m 100 C D))
def reval (C D n : Nat) (m : zmem) : zmem := if rev1 n m 57 25 < 0 then rev2 C D n (rev1 n m) else if rev1 n m 57 25 ≤ rquar (rev1 n m) 100 C D then rev1 n m else rev2 C D n (rev1 n m)
/-- what the tries come to -/
def rlsP (D Y C n : Nat) : Nat → zmem → zmem → Prop
  | 0, _, _ => False
  | f + 1, m, mR => (∀ j, j < n → vp_in (m 69 j) Y) ∧ (if n = 0 then mR = reval C D n m else if (rgo D Y n n (reval C D n m)).1 = 0 then mR = (rgo D Y n n (reval C D n m)).2 else rlsP D Y C n f (rgo D Y n n (reval C D n m)).2 mR)
def rcnt (m : zmem) (d : Nat) : Nat := sfold (fun k t => if rlf m 0 (Int32.ofNat k) = 0 then t else t + 1) d 0 0
def rl0 (m : zmem) (D Y : Nat) : zmem := rfill D Y 0 (rfm m D).1 (mset (rfm m D).2 57 25 (-1))
def rk_fl (m : zmem) (D Y : Nat) (mR : zmem) : Int32 × zmem := if Int32.ofNat (rfm m D).1 ≤ rnfree (rfm m D).2 D Y then (1, mR) else (0, (rfm m D).2)
def rk_laying (m : zmem) (D Y : Nat) (d : Int32) (mR : zmem) : Int32 × zmem := if ¬ d = -1 ∧ sin (m 64 1) d = 0 then (-1000000001, m) else (if (rk_fl m D Y mR).1 = 0 then -1 else if 0 ≤ d then (if rlf (rk_fl m D Y mR).2 0 d = 0 then -1 else (rk_fl m D Y mR).2 70 (rcnt (rk_fl m D Y mR).2 d.toNatClampNeg)) else (rk_fl m D Y mR).2 57 25, (rk_fl m D Y mR).2)
/-- nothing but the tries is another -/
def WL (m m' : zmem) : Prop := (∀ q, q ≠ 57 → q ≠ 58 → q ≠ 68 → q ≠ 69 → q ≠ 70 → m' q = m q) ∧ ∀ j, j ≠ 25 → m' 57 j = m 57 j
theorem WL.rf (m : zmem) : WL m m := ⟨fun _ _ _ _ _ _ => rfl, fun _ _ => rfl⟩
theorem WL.tr {a b c : zmem} (h : WL a b) (g : WL b c) : WL a c := ⟨fun q h1 h2 h3 h4 h5 => (g.1 q h1 h2 h3 h4 h5).trans (h.1 q h1 h2 h3 h4 h5), fun j hj => (g.2 j hj).trans (h.2 j hj)⟩
theorem WL.m58 {m : zmem} {j : Nat} {v : Int32} : WL m (mset m 58 j v) := ⟨fun _ _ h _ _ _ => mset_cell v h, fun _ _ => congrFun (mset_cell v (by decide)) _⟩
theorem WL.m68 {m : zmem} {j : Nat} {v : Int32} : WL m (mset m 68 j v) := ⟨fun _ _ _ h _ _ => mset_cell v h, fun _ _ => congrFun (mset_cell v (by decide)) _⟩
theorem WL.m69 {m : zmem} {j : Nat} {v : Int32} : WL m (mset m 69 j v) := ⟨fun _ _ _ _ h _ => mset_cell v h, fun _ _ => congrFun (mset_cell v (by decide)) _⟩
theorem WL.m70 {m : zmem} {j : Nat} {v : Int32} : WL m (mset m 70 j v) := ⟨fun _ _ _ _ _ h => mset_cell v h, fun _ _ => congrFun (mset_cell v (by decide)) _⟩
theorem WL.m57 {m : zmem} {v : Int32} : WL m (mset m 57 25 v) := ⟨fun _ h _ _ _ _ => mset_cell v h, fun _ hj => mset_ne v (fun q => hj q.2)⟩
theorem WL.wp {m : zmem} {X o : Nat} {d v : Int32} : WL m (wp m X o d v) := WL.m58
theorem WL.fold {f : Nat → zmem → zmem} (h : ∀ k m, WL m (f k m)) : ∀ n k m, WL m (sfold f n k m) := by
  intro n
  induction n with
  | zero => intro k m; exact WL.rf m
  | succ n ih => intro k m; exact (h k m).tr (ih (k + 1) (f k m))
theorem WL.copy (m : zmem) (X Y : Nat) : WL m (rcopy m X Y) := WL.fold (fun _ _ => WL.m58) 100 0 m
theorem WL.fill (D Y a b : Nat) (m : zmem) : WL m (rfill D Y a b m) := WL.fold (fun _ _ => WL.m69) _ a m
theorem RI.l {m m' : zmem} {D Y C L W : Nat} (h : RI m D Y C L W) (w : WL m m') : RI m' D Y C L W := by
  obtain ⟨hD, hD7, hY, hY8, hC, hC8, hL, hL4, hW, hW20⟩ := h
  refine ⟨?_, hD7, ?_, hY8, ?_, hC8, ?_, hL4, ?_, hW20⟩
  · rw [w.1 _ (by decide) (by decide) (by decide) (by decide) (by decide)]; assumption
  · rw [w.1 _ (by decide) (by decide) (by decide) (by decide) (by decide)]; assumption
  · rw [w.2 _ (by decide)]; assumption
  · rw [w.2 _ (by decide)]; assumption
  · rw [w.2 _ (by decide)]; assumption
theorem WL.go (D Y n : Nat) : ∀ q m, WL m (rgo D Y n q m).2 := by
  intro q
  induction q with
  | zero => intro m; exact WL.rf m
  | succ q ih =>
    intro m
    unfold rgo
    split
    · exact WL.m69.tr (WL.fill _ _ _ _ _)
    · exact WL.m69.tr (ih _)
theorem WL.rev1 (n : Nat) (m : zmem) : WL m (rev1 n m) := WL.fold (fun _ _ => WL.wp) n 0 m
theorem WL.rev2 (C D n : Nat) (m : zmem) : WL m (rev2 C D n m) := WL.m57.tr (WL.fold (fun _ _ => WL.m70) n 0 _)
theorem WL.eval (C D n : Nat) (m : zmem) : WL m (reval C D n m) := by
  unfold reval
  split
  · exact (WL.rev1 n m).tr (WL.rev2 C D n _)
  · split
    · exact WL.rev1 n m
    · exact (WL.rev1 n m).tr (WL.rev2 C D n _)
theorem WL.th (k : Nat) (s : Nat × zmem) : WL s.2 (rth k s).2 := by
  unfold rth
  split
  · exact WL.rf _
  · exact WL.m68
set_option maxRecDepth 100000 in
set_option maxHeartbeats 4000000 in
theorem c7_unl {m : zmem} {D Y C L W : Nat} (hI : RI m D Y C L W) {k : Nat} (hk8 : k < 8) (hvk : vp_in (m 69 k) 8) : Ei MX7_isUnlike 2 [.ref 57, .int (Int32.ofNat k)] m (runl m D k) (m) := by
  obtain ⟨hD, hD7, hY, hY8, hC, hC8, hL, hL4, hW, hW20⟩ := id hI
  refine Ei.of (by decide) (Nat.le_of_ble_eq_true rfl) ?_
  show Z _ 0 [(0, .ref 57), (1, .int (Int32.ofNat k))] _ _ _ _
  refine z_aload_n 0 dX7_isUnlike_0 rfl rfl ?_
  refine z_aload_n 0 dX7_isUnlike_1 rfl rfl ?_
  refine y_getR fX7_54 dX7_isUnlike_2 rfl rfl ?_
  refine z_iload_n 1 dX7_isUnlike_5 rfl rfl ?_
  refine y_ald (N := k) dX7_isUnlike_6 rfl rfl (by omega) ?_
  refine y_Vi [_] _ kX7_254 (c7_free hI hvk) rfl rfl dX7_isUnlike_7 rfl rfl (Nat.le_of_ble_eq_true rfl) (Nat.le_of_ble_eq_true rfl) ⟨Nat.zero_le _, Nat.zero_le _⟩ ?_
  refine z_topi (fun v_1 e_1 => ?_)
  refine z_istore_n (lv' := [(2, .int v_1), (0, .ref 57), (1, .int (Int32.ofNat k))]) dX7_isUnlike_10 rfl (Nat.le_of_ble_eq_true rfl) rfl ?_
  refine z_iconst 0 dX7_isUnlike_11 (by decide) ?_
  refine z_istore_n (lv' := [(3, .int 0), (2, .int v_1), (0, .ref 57), (1, .int (Int32.ofNat k))]) dX7_isUnlike_12 rfl (Nat.le_of_ble_eq_true rfl) rfl ?_
  have loop13 : ∀ (n : Nat) (j : Nat) (s : Int32), j + n = k → s = 0 ∨ s = 1 → (runl m D k = sfold (fun j s => if s = 0 then 0 else if m 69 j = m 69 k then 0 else 1) n j s) → Z (zMB (Qi (runl m D k) (m)) 2 MX7_isUnlike) 13 [(0, .ref 57), (1, .int (Int32.ofNat k)), (2, .int s), (3, .int (Int32.ofNat j))] [] (hp m) 0 0 := by
    intro n
    induction n with
    | zero =>
      intro j s hj hv01 hr
      refine z_iload_n 3 dX7_isUnlike_13 rfl rfl ?_
      refine z_iload_n 1 dX7_isUnlike_14 rfl rfl ?_
      refine z_icmp_ge 49 dX7_isUnlike_15 (by decide) (fun c_2 => ?_) (fun c_2 => ?_)
      · refine z_iload_n 2 dX7_isUnlike_49 rfl rfl ?_
        exact y_zret dX7_isUnlike_50 rfl hv01 hr.symm rfl
      · exact (dz rfl (b := Int32.ofNat k) (N := k) rfl (by omega) (by omega) c_2).elim
    | succ n ih13 =>
      intro j s hj hv01 hr
      refine z_iload_n 3 dX7_isUnlike_13 rfl rfl ?_
      refine z_iload_n 1 dX7_isUnlike_14 rfl rfl ?_
      refine z_icmp_ge 49 dX7_isUnlike_15 (by decide) (fun c_3 => ?_) (fun c_3 => ?_)
      · exact (ds rfl (b := Int32.ofNat k) (N := k) rfl (by omega) (by omega) c_3).elim
      · refine z_iload_n 2 dX7_isUnlike_18 rfl rfl ?_
        refine z_if_eq 41 dX7_isUnlike_19 (by decide) (fun c_4 => ?_) (fun c_4 => ?_)
        · refine z_iconst 0 dX7_isUnlike_41 (by decide) ?_
          refine z_istore_n (lv' := [(2, .int 0), (0, .ref 57), (1, .int (Int32.ofNat k)), (3, .int (Int32.ofNat j))]) dX7_isUnlike_42 rfl (Nat.le_of_ble_eq_true rfl) rfl ?_
          obtain ⟨v_5, e_5⟩ : ∃ y : Int32, y = (Int32.ofNat j) + 1 := ⟨_, rfl⟩
          refine z_iinc (lv' := [(3, .int v_5), (2, .int 0), (0, .ref 57), (1, .int (Int32.ofNat k))]) 3 v_5 dX7_isUnlike_43 rfl (by rw [e_5]; rfl) (Nat.le_of_ble_eq_true rfl) rfl ?_
          refine z_goto 13 dX7_isUnlike_46 (by decide) ?_
          obtain rfl : v_5 = Int32.ofNat (j + 1) := e_5.trans (nat_succ j)
          refine z_sub [2,3,1,0] rfl ?_
          exact ih13 (j + 1) _ (by omega) (by decide) (hr.trans (congrArg (sfold _ n (j + 1)) (by simp [c_3, c_4])))
        · refine z_aload_n 0 dX7_isUnlike_22 rfl rfl ?_
          refine y_getR fX7_54 dX7_isUnlike_23 rfl rfl ?_
          refine z_iload_n 3 dX7_isUnlike_26 rfl rfl ?_
          refine y_ald (N := j) dX7_isUnlike_27 rfl rfl (by omega) ?_
          refine z_aload_n 0 dX7_isUnlike_28 rfl rfl ?_
          refine y_getR fX7_54 dX7_isUnlike_29 rfl rfl ?_
          refine z_iload_n 1 dX7_isUnlike_32 rfl rfl ?_
          refine y_ald (N := k) dX7_isUnlike_33 rfl rfl (by omega) ?_
          refine z_icmp_eq 41 dX7_isUnlike_34 (by decide) (fun c_6 => ?_) (fun c_6 => ?_)
          · refine z_iconst 0 dX7_isUnlike_41 (by decide) ?_
            refine z_istore_n (lv' := [(2, .int 0), (0, .ref 57), (1, .int (Int32.ofNat k)), (3, .int (Int32.ofNat j))]) dX7_isUnlike_42 rfl (Nat.le_of_ble_eq_true rfl) rfl ?_
            obtain ⟨v_7, e_7⟩ : ∃ y : Int32, y = (Int32.ofNat j) + 1 := ⟨_, rfl⟩
            refine z_iinc (lv' := [(3, .int v_7), (2, .int 0), (0, .ref 57), (1, .int (Int32.ofNat k))]) 3 v_7 dX7_isUnlike_43 rfl (by rw [e_7]; rfl) (Nat.le_of_ble_eq_true rfl) rfl ?_
            refine z_goto 13 dX7_isUnlike_46 (by decide) ?_
            obtain rfl : v_7 = Int32.ofNat (j + 1) := e_7.trans (nat_succ j)
            refine z_sub [2,3,1,0] rfl ?_
            exact ih13 (j + 1) _ (by omega) (by decide) (hr.trans (congrArg (sfold _ n (j + 1)) (by simp [c_3, c_4, c_6])))
          · refine z_iconst 1 dX7_isUnlike_37 (by decide) ?_
            refine z_goto 42 dX7_isUnlike_38 (by decide) ?_
            refine z_istore_n (lv' := [(2, .int 1), (0, .ref 57), (1, .int (Int32.ofNat k)), (3, .int (Int32.ofNat j))]) dX7_isUnlike_42 rfl (Nat.le_of_ble_eq_true rfl) rfl ?_
            obtain ⟨v_8, e_8⟩ : ∃ y : Int32, y = (Int32.ofNat j) + 1 := ⟨_, rfl⟩
            refine z_iinc (lv' := [(3, .int v_8), (2, .int 1), (0, .ref 57), (1, .int (Int32.ofNat k))]) 3 v_8 dX7_isUnlike_43 rfl (by rw [e_8]; rfl) (Nat.le_of_ble_eq_true rfl) rfl ?_
            refine z_goto 13 dX7_isUnlike_46 (by decide) ?_
            obtain rfl : v_8 = Int32.ofNat (j + 1) := e_8.trans (nat_succ j)
            refine z_sub [2,3,1,0] rfl ?_
            exact ih13 (j + 1) _ (by omega) (by decide) (hr.trans (congrArg (sfold _ n (j + 1)) (by simp [c_3, c_4, c_6])))
  refine z_sub [2,3,1,0] rfl ?_
  exact loop13 (k) 0 _ (by omega) (by simp only [e_1]; exact rfree01 _ _ _) (by simp only [e_1]; rfl)
set_option maxRecDepth 100000 in
set_option maxHeartbeats 4000000 in
theorem c7_fill {m : zmem} {D Y C L W : Nat} (hI : RI m D Y C L W) {a b : Nat} (hab : a ≤ b) (hb8 : b ≤ 7) : Ei MX7_fill 3 [.ref 57, .int (Int32.ofNat a), .int (Int32.ofNat b)] m (1) (rfill D Y a b m) := by
  obtain ⟨hD, hD7, hY, hY8, hC, hC8, hL, hL4, hW, hW20⟩ := id hI
  refine Ei.of (by decide) (Nat.le_of_ble_eq_true rfl) ?_
  show Z _ 0 [(0, .ref 57), (1, .int (Int32.ofNat a)), (2, .int (Int32.ofNat b))] _ _ _ _
  refine z_iload_n 1 dX7_fill_0 rfl rfl ?_
  refine z_istore_n (lv' := [(3, .int (Int32.ofNat a)), (0, .ref 57), (1, .int (Int32.ofNat a)), (2, .int (Int32.ofNat b))]) dX7_fill_1 rfl (Nat.le_of_ble_eq_true rfl) rfl ?_
  have loop2 : ∀ (q : Nat) (k : Nat) (mm : zmem), k + q = b → rfill D Y a b m = sfold (rfi D Y) q k mm → WL m mm → Z (zMB (Qi (1) (rfill D Y a b m)) 3 MX7_fill) 2 [(0, .ref 57), (1, .int (Int32.ofNat a)), (2, .int (Int32.ofNat b)), (3, .int (Int32.ofNat k))] [] (hp mm) 0 0 := by
    intro q
    induction q with
    | zero =>
      intro k mm hk hr hw
      refine z_iload_n 3 dX7_fill_2 rfl rfl ?_
      refine z_iload_n 2 dX7_fill_3 rfl rfl ?_
      refine z_icmp_ge 56 dX7_fill_4 (by decide) (fun c_1 => ?_) (fun c_1 => ?_)
      · refine z_iconst 1 dX7_fill_56 (by decide) ?_
        exact y_zret dX7_fill_57 rfl (Or.inr rfl) rfl hr.symm
      · exact (dz rfl (b := Int32.ofNat b) (N := b) rfl (by omega) (by omega) c_1).elim
    | succ q ih2 =>
      intro k mm hk hr hw
      refine z_iload_n 3 dX7_fill_2 rfl rfl ?_
      refine z_iload_n 2 dX7_fill_3 rfl rfl ?_
      refine z_icmp_ge 56 dX7_fill_4 (by decide) (fun c_2 => ?_) (fun c_2 => ?_)
      · exact (ds rfl (b := Int32.ofNat b) (N := b) rfl (by omega) (by omega) c_2).elim
      · refine z_aload_n 0 dX7_fill_7 rfl rfl ?_
        refine y_getR fX7_54 dX7_fill_8 rfl rfl ?_
        refine z_iload_n 3 dX7_fill_11 rfl rfl ?_
        refine z_iconst 0 dX7_fill_12 (by decide) ?_
        refine y_ast (N := k) dX7_fill_13 rfl rfl (by omega) ?_
        refine y_mem (m1 := mset mm 69 k (Int32.ofNat 0)) rfl ?_
        have loop14 : ∀ (p : Nat) (i : Nat), i + p = Y → sskip (rsk mm D k) Y 0 = sskip (rsk mm D k) p i → Z (zMB (Qi (1) (rfill D Y a b m)) 3 MX7_fill) 14 [(0, .ref 57), (1, .int (Int32.ofNat a)), (2, .int (Int32.ofNat b)), (3, .int (Int32.ofNat k))] [] (hp (mset mm 69 k (Int32.ofNat i))) 0 0 := by
          intro p
          induction p with
          | zero =>
            intro i hi hr2
            refine z_aload_n 0 dX7_fill_14 rfl rfl ?_
            refine y_getR fX7_54 dX7_fill_15 rfl rfl ?_
            refine z_iload_n 3 dX7_fill_18 rfl rfl ?_
            refine y_ald (N := k) dX7_fill_19 rfl rfl (by omega) ?_
            refine z_itop (y := (Int32.ofNat i)) (mset_eq _ _ _ _) ?_
            refine z_aload_n 0 dX7_fill_20 rfl rfl ?_
            refine y_getR fX7_36 dX7_fill_21 rfl rfl ?_
            refine z_iconst 0 dX7_fill_24 (by decide) ?_
            refine y_ald (N := 0) dX7_fill_25 rfl rfl (by decide) ?_
            refine z_icmp_ge 50 dX7_fill_26 (by decide) (fun c_3 => ?_) (fun c_3 => ?_)
            · have hfound : sskip (rsk mm D k) Y 0 = i := by rw [hr2]; simp [sskip, rsk, c_2, c_3]
              obtain ⟨v_4, e_4⟩ : ∃ y : Int32, y = (Int32.ofNat k) + 1 := ⟨_, rfl⟩
              refine z_iinc (lv' := [(3, .int v_4), (0, .ref 57), (1, .int (Int32.ofNat a)), (2, .int (Int32.ofNat b))]) 3 v_4 dX7_fill_50 rfl (by rw [e_4]; rfl) (Nat.le_of_ble_eq_true rfl) rfl ?_
              refine z_goto 2 dX7_fill_53 (by decide) ?_
              obtain rfl : v_4 = Int32.ofNat (k + 1) := e_4.trans (nat_succ k)
              refine z_sub [1,2,3,0] rfl ?_
              exact ih2 (k + 1) _ (by omega) (hr.trans (congrArg (sfold _ q (k + 1)) (by simp only [rfi, rnx, Nat.sub_zero, hfound]))) (hw.tr WL.m69)
            · exact (dz rfl ((hI.l (hw.tr WL.m69)).2.2.1) (by omega) (by omega) c_3).elim
          | succ p ih14 =>
            intro i hi hr2
            refine z_aload_n 0 dX7_fill_14 rfl rfl ?_
            refine y_getR fX7_54 dX7_fill_15 rfl rfl ?_
            refine z_iload_n 3 dX7_fill_18 rfl rfl ?_
            refine y_ald (N := k) dX7_fill_19 rfl rfl (by omega) ?_
            refine z_itop (y := (Int32.ofNat i)) (mset_eq _ _ _ _) ?_
            refine z_aload_n 0 dX7_fill_20 rfl rfl ?_
            refine y_getR fX7_36 dX7_fill_21 rfl rfl ?_
            refine z_iconst 0 dX7_fill_24 (by decide) ?_
            refine y_ald (N := 0) dX7_fill_25 rfl rfl (by decide) ?_
            refine z_icmp_ge 50 dX7_fill_26 (by decide) (fun c_5 => ?_) (fun c_5 => ?_)
            · exact (ds rfl ((hI.l (hw.tr WL.m69)).2.2.1) (by omega) (by omega) c_5).elim
            · refine z_aload_n 0 dX7_fill_29 rfl rfl ?_
              refine z_iload_n 3 dX7_fill_30 rfl rfl ?_
              refine y_Vi [_] _ kX7_248 (c7_unl (hI.l (hw.tr WL.m69)) (by omega) (by rw [mset_eq]; exact vk (by omega))) rfl rfl dX7_fill_31 rfl rfl (Nat.le_of_ble_eq_true rfl) (Nat.le_of_ble_eq_true rfl) ⟨Nat.zero_le _, Nat.zero_le _⟩ ?_
              refine z_if_ne 50 dX7_fill_34 (by decide) (fun c_6 => ?_) (fun c_6 => ?_)
              · have hfound : sskip (rsk mm D k) Y 0 = i := by rw [hr2]; simp [sskip, rsk, c_2, c_5, c_6]
                obtain ⟨v_7, e_7⟩ : ∃ y : Int32, y = (Int32.ofNat k) + 1 := ⟨_, rfl⟩
                refine z_iinc (lv' := [(3, .int v_7), (0, .ref 57), (1, .int (Int32.ofNat a)), (2, .int (Int32.ofNat b))]) 3 v_7 dX7_fill_50 rfl (by rw [e_7]; rfl) (Nat.le_of_ble_eq_true rfl) rfl ?_
                refine z_goto 2 dX7_fill_53 (by decide) ?_
                obtain rfl : v_7 = Int32.ofNat (k + 1) := e_7.trans (nat_succ k)
                refine z_sub [1,2,3,0] rfl ?_
                exact ih2 (k + 1) _ (by omega) (hr.trans (congrArg (sfold _ q (k + 1)) (by simp only [rfi, rnx, Nat.sub_zero, hfound]))) (hw.tr WL.m69)
              · refine z_aload_n 0 dX7_fill_37 rfl rfl ?_
                refine y_getR fX7_54 dX7_fill_38 rfl rfl ?_
                refine z_iload_n 3 dX7_fill_41 rfl rfl ?_
                refine z_dup2 dX7_fill_42 rfl rfl ?_
                refine y_ald (N := k) dX7_fill_43 rfl rfl (by omega) ?_
                refine z_iconst 1 dX7_fill_44 (by decide) ?_
                refine z_iadd dX7_fill_45 ?_
                refine y_ast (N := k) dX7_fill_46 rfl rfl (by omega) ?_
                refine z_goto 14 dX7_fill_47 (by decide) ?_
                refine y_mem (m1 := mset mm 69 k (Int32.ofNat (i + 1))) (by rw [mset_mset, mset_eq, nat_succ]) ?_
                refine z_sub [0,1,2,3] rfl ?_
                exact ih14 (i + 1)  (by omega) (by rw [hr2]; simp [sskip, rsk, c_5, c_6])
        refine z_sub [0,1,2,3] rfl ?_
        exact loop14 (Y) 0 (by omega) rfl
  refine z_sub [1,2,3,0] rfl ?_
  exact loop2 (b - a) a _ (by omega) rfl (WL.rf m)
theorem lt_vp {x : Int32} {a b : Nat} (h : vp_in x a) (hab : a ≤ b) : vp_in x b := fun q => h (q.imp id (fun g => Nat.le_trans hab g))
theorem le0 {t : Nat} (h : Int32.ofNat t ≤ 0) (ht : t < 2147483648) : t = 0 := by
  rw [Int32.le_iff_toInt_le, nat_toInt ht, show (0 : Int32).toInt = 0 from rfl] at h
  omega
theorem hth_s {mm : zmem} {t : Nat} {v : Int32} (h : ∀ j, j < t → vp_in (mm 68 j) 8) (hv : vp_in v 8) : ∀ j, j < t + 1 → vp_in (mset mm 68 t v 68 j) 8 := by
  intro j hj
  by_cases e : j = t
  · subst e; rw [mset_eq]; exact hv
  · rw [mset_ne _ (fun q => e q.2)]; exact h j (by omega)
theorem sfold_cell {f : Nat → zmem → zmem} {q : Nat} (h : ∀ k m, f k m q = m q) : ∀ n k m, sfold f n k m q = m q := by
  intro n
  induction n with
  | zero => intro k m; rfl
  | succ n ih => intro k m; unfold sfold; rw [ih, h]
theorem rev1_cell {n q : Nat} {m : zmem} (h : q ≠ 58) : rev1 n m q = m q := sfold_cell (fun k m => by rw [rpl, wp, mset_cell _ h]) n 0 m
theorem rev2_cell {C D n q : Nat} {m : zmem} (h : q ≠ 57) (g : q ≠ 70) : rev2 C D n m q = m q := by
  rw [rev2, sfold_cell (fun k m => by rw [rbc, mset_cell _ g]) n 0 _, mset_cell _ h]
theorem reval_cell {C D n q : Nat} {m : zmem} (h : q ≠ 57) (g : q ≠ 70) (e : q ≠ 58) : reval C D n m q = m q := by
  unfold reval
  split
  · rw [rev2_cell h g, rev1_cell e]
  · split
    · exact rev1_cell e
    · rw [rev2_cell h g, rev1_cell e]
theorem rfill_cell {D Y a b q : Nat} (h : q ≠ 69) (m : zmem) : rfill D Y a b m q = m q := sfold_cell (fun k m => mset_cell _ h) _ _ _
theorem rgo_cell {D Y n q : Nat} (h : q ≠ 69) : ∀ k m, (rgo D Y n k m).2 q = m q := by
  intro k
  induction k with
  | zero => intro m; rfl
  | succ k ih =>
    intro m
    unfold rgo
    split
    · exact (rfill_cell h _).trans (mset_cell _ h)
    · rw [ih, mset_cell _ h]
theorem rlsP_WL {D Y C n : Nat} : ∀ f m mR, rlsP D Y C n f m mR → WL m mR := by
  intro f
  induction f with
  | zero => intro m mR h; exact h.elim
  | succ f ih =>
    intro m mR h
    have h2 := h.2
    split at h2
    · rw [h2]; exact WL.eval C D n m
    · split at h2
      · rw [h2]; exact (WL.eval C D n m).tr (WL.go _ _ _ _ _)
      · exact ((WL.eval C D n m).tr (WL.go _ _ _ _ _)).tr (ih _ _ h2)
theorem WL.fm (m : zmem) (D : Nat) : WL m (rfm m D).2 := by
  have a : ∀ n k (s : Nat × zmem), WL s.2 (sfold rth n k s).2 := by
    intro n
    induction n with
    | zero => intro k s; exact WL.rf _
    | succ n ih => intro k s; exact (WL.th k s).tr (ih (k + 1) (rth k s))
  exact (WL.copy m 0 100).tr (a D 0 (0, rcopy m 0 100))
theorem fl_WL {m mR : zmem} {D Y C F : Nat} (hP : Int32.ofNat (rfm m D).1 ≤ rnfree (rfm m D).2 D Y → rlsP D Y C (rfm m D).1 F (rl0 m D Y) mR) : WL m (rk_fl m D Y mR).2 := by
  unfold rk_fl
  split
  · rename_i h
    exact ((WL.fm m D).tr (WL.m57.tr (WL.fill _ _ _ _ _))).tr (rlsP_WL _ _ _ (hP h))
  · exact WL.fm m D
theorem rlf_add (m : zmem) (X : Nat) (d : Int32) (t : Nat) : Int32.ofNat t + rlf m X d = Int32.ofNat (if rlf m X d = 0 then t else t + 1) := by
  rcases rlf01 m X d with e | e
  · simp [e]
  · rw [if_neg (by rw [e]; decide), e]
    exact nat_succ t
set_option maxRecDepth 100000 in
set_option maxHeartbeats 4000000 in
theorem c7_goOn {m : zmem} {D Y C L W : Nat} (hI : RI m D Y C L W) {N : Nat} (hN7 : N ≤ 7) (hv : ∀ j, j < N → vp_in (m 69 j) Y) : Ei MX7_goOn 4 [.ref 57, .int (Int32.ofNat N)] m ((rgo D Y N N m).1) ((rgo D Y N N m).2) := by
  obtain ⟨hD, hD7, hY, hY8, hC, hC8, hL, hL4, hW, hW20⟩ := id hI
  refine Ei.of (by decide) (Nat.le_of_ble_eq_true rfl) ?_
  show Z _ 0 [(0, .ref 57), (1, .int (Int32.ofNat N))] _ _ _ _
  refine z_iload_n 1 dX7_goOn_0 rfl rfl ?_
  refine z_iconst 1 dX7_goOn_1 (by decide) ?_
  refine z_isub dX7_goOn_2 ?_
  refine z_itop (y := (Int32.ofNat N - 1)) rfl ?_
  refine z_istore_n (lv' := [(2, .int (Int32.ofNat N - 1)), (0, .ref 57), (1, .int (Int32.ofNat N))]) dX7_goOn_3 rfl (Nat.le_of_ble_eq_true rfl) rfl ?_
  refine z_iconst 0 dX7_goOn_4 (by decide) ?_
  refine z_istore_n (lv' := [(3, .int 0), (2, .int (Int32.ofNat N - 1)), (0, .ref 57), (1, .int (Int32.ofNat N))]) dX7_goOn_5 rfl (Nat.le_of_ble_eq_true rfl) rfl ?_
  have loop6 : ∀ (q : Nat) (mm : zmem), q ≤ N → (∀ j, j < q → vp_in (mm 69 j) Y) → rgo D Y N N m = rgo D Y N q mm → WL m mm → Z (zMB (Qi ((rgo D Y N N m).1) ((rgo D Y N N m).2)) 4 MX7_goOn) 6 [(0, .ref 57), (1, .int (Int32.ofNat N)), (2, .int (Int32.ofNat q - 1)), (3, .int 0)] [] (hp mm) 0 0 := by
    intro q
    induction q with
    | zero =>
      intro mm hq hv2 hr hw
      refine z_iload_n 2 dX7_goOn_6 rfl rfl ?_
      refine z_if_lt 99 dX7_goOn_7 (by decide) (fun c_1 => ?_) (fun c_1 => ?_)
      · refine z_iload_n 3 dX7_goOn_99 rfl rfl ?_
        refine z_if_eq 118 dX7_goOn_100 (by decide) (fun _ => ?_) (fun c => absurd c (by decide))
        refine z_iconst 0 dX7_goOn_118 (by decide) ?_
        exact y_zret dX7_goOn_119 rfl (by decide) (by first | (rw [hr]; simp only [rgo, hfound, if_pos hlt]; done) | (rw [hr]; rfl)) (by first | (rw [hr]; simp only [rgo, hfound, if_pos hlt]; done) | (rw [hr]; rfl))
      · exact (c_1 (by decide)).elim
    | succ q ih6 =>
      intro mm hq hv2 hr hw
      rw [nat_pred]
      refine z_iload_n 2 dX7_goOn_6 rfl rfl ?_
      refine z_if_lt 99 dX7_goOn_7 (by decide) (fun c_2 => ?_) (fun c_2 => ?_)
      · exact (lt0 (by omega) c_2).elim
      · refine z_iload_n 3 dX7_goOn_10 rfl rfl ?_
        refine z_if_ne 99 dX7_goOn_11 (by decide) (fun c => absurd c (by decide)) (fun _ => ?_)
        refine z_aload_n 0 dX7_goOn_14 rfl rfl ?_
        refine y_getR fX7_54 dX7_goOn_15 rfl rfl ?_
        refine z_iload_n 2 dX7_goOn_18 rfl rfl ?_
        refine z_dup2 dX7_goOn_19 rfl rfl ?_
        refine y_ald (N := q) dX7_goOn_20 rfl rfl (by omega) ?_
        refine z_iconst 1 dX7_goOn_21 (by decide) ?_
        refine z_iadd dX7_goOn_22 ?_
        refine y_ast (N := q) dX7_goOn_23 rfl rfl (by omega) ?_
        refine y_mem (m1 := mset mm 69 q (Int32.ofNat ((mm 69 q).toNatClampNeg + 1))) (by rw [show mm 69 q + 1 = Int32.ofNat ((mm 69 q).toNatClampNeg + 1) from (congrArg (· + 1) (vp_nn (hv2 q (by omega)))).trans (nat_succ _)]) ?_
        have loop24 : ∀ (p : Nat) (i : Nat), i + p = Y → rgox D Y q mm = sskip (rsk mm D q) p i → Z (zMB (Qi ((rgo D Y N N m).1) ((rgo D Y N N m).2)) 4 MX7_goOn) 24 [(0, .ref 57), (1, .int (Int32.ofNat N)), (2, .int (Int32.ofNat q))] [] (hp (mset mm 69 q (Int32.ofNat i))) 0 0 := by
          intro p
          induction p with
          | zero =>
            intro i hi hr2
            refine z_aload_n 0 dX7_goOn_24 rfl rfl ?_
            refine y_getR fX7_54 dX7_goOn_25 rfl rfl ?_
            refine z_iload_n 2 dX7_goOn_28 rfl rfl ?_
            refine y_ald (N := q) dX7_goOn_29 rfl rfl (by omega) ?_
            refine z_itop (y := (Int32.ofNat i)) (mset_eq _ _ _ _) ?_
            refine z_aload_n 0 dX7_goOn_30 rfl rfl ?_
            refine y_getR fX7_36 dX7_goOn_31 rfl rfl ?_
            refine z_iconst 0 dX7_goOn_34 (by decide) ?_
            refine y_ald (N := 0) dX7_goOn_35 rfl rfl (by decide) ?_
            refine z_icmp_ge 60 dX7_goOn_36 (by decide) (fun c_3 => ?_) (fun c_3 => ?_)
            · have hfound : rgox D Y q mm = i := by rw [hr2]; simp [sskip, rsk, c_2, c_3]
              refine z_aload_n 0 dX7_goOn_60 rfl rfl ?_
              refine y_getR fX7_54 dX7_goOn_61 rfl rfl ?_
              refine z_iload_n 2 dX7_goOn_64 rfl rfl ?_
              refine y_ald (N := q) dX7_goOn_65 rfl rfl (by omega) ?_
              refine z_itop (y := (Int32.ofNat i)) (mset_eq _ _ _ _) ?_
              refine z_aload_n 0 dX7_goOn_66 rfl rfl ?_
              refine y_getR fX7_36 dX7_goOn_67 rfl rfl ?_
              refine z_iconst 0 dX7_goOn_70 (by decide) ?_
              refine y_ald (N := 0) dX7_goOn_71 rfl rfl (by decide) ?_
              refine z_icmp_ge 79 dX7_goOn_72 (by decide) (fun c_4 => ?_) (fun c_4 => ?_)
              · refine z_iconst 0 dX7_goOn_79 (by decide) ?_
                refine z_istore_n (lv' := [(3, .int 0), (0, .ref 57), (1, .int (Int32.ofNat N)), (2, .int (Int32.ofNat q))]) dX7_goOn_80 rfl (Nat.le_of_ble_eq_true rfl) rfl ?_
                refine z_iload_n 3 dX7_goOn_81 rfl rfl ?_
                refine z_iload_n 0 dX7_goOn_82 rfl rfl ?_
                refine z_if_ne 90 dX7_goOn_83 (by decide) (fun c => absurd c (by decide)) (fun _ => ?_)
                refine z_iconst 1 dX7_goOn_86 (by decide) ?_
                refine z_goto 91 dX7_goOn_87 (by decide) ?_
                refine y_Si [_] _ kX7_157 (c7_one (by first | exact rlf01 _ _ _ | exact roff01 _ _ _ _ _ | decide)) dX7_goOn_91 rfl rfl (Nat.le_of_ble_eq_true rfl) (Nat.le_of_ble_eq_true rfl) ⟨Nat.zero_le _, Nat.zero_le _⟩ ?_
                refine z_isub dX7_goOn_94 ?_
                refine z_itop (y := (Int32.ofNat q - 1)) rfl ?_
                refine z_istore_n (lv' := [(2, .int (Int32.ofNat q - 1)), (3, .int 0), (0, .ref 57), (1, .int (Int32.ofNat N))]) dX7_goOn_95 rfl (Nat.le_of_ble_eq_true rfl) rfl ?_
                refine z_goto 6 dX7_goOn_96 (by decide) ?_
                refine z_sub [2,3,0,1] rfl ?_
                exact ih6 _ (by omega) (fun j hj => by rw [mset_ne _ (fun e => by omega)]; exact hv2 j (by omega)) (by rw [hr]; simp only [rgo, hfound, if_neg (show ¬ i < Y by omega)]) (hw.tr WL.m69)
              · exact (dz rfl ((hI.l (hw.tr WL.m69)).2.2.1) (by omega) (by omega) c_4).elim
            · exact (dz rfl ((hI.l (hw.tr WL.m69)).2.2.1) (by omega) (by omega) c_3).elim
          | succ p ih24 =>
            intro i hi hr2
            refine z_aload_n 0 dX7_goOn_24 rfl rfl ?_
            refine y_getR fX7_54 dX7_goOn_25 rfl rfl ?_
            refine z_iload_n 2 dX7_goOn_28 rfl rfl ?_
            refine y_ald (N := q) dX7_goOn_29 rfl rfl (by omega) ?_
            refine z_itop (y := (Int32.ofNat i)) (mset_eq _ _ _ _) ?_
            refine z_aload_n 0 dX7_goOn_30 rfl rfl ?_
            refine y_getR fX7_36 dX7_goOn_31 rfl rfl ?_
            refine z_iconst 0 dX7_goOn_34 (by decide) ?_
            refine y_ald (N := 0) dX7_goOn_35 rfl rfl (by decide) ?_
            refine z_icmp_ge 60 dX7_goOn_36 (by decide) (fun c_5 => ?_) (fun c_5 => ?_)
            · exact (ds rfl ((hI.l (hw.tr WL.m69)).2.2.1) (by omega) (by omega) c_5).elim
            · refine z_aload_n 0 dX7_goOn_39 rfl rfl ?_
              refine z_iload_n 2 dX7_goOn_40 rfl rfl ?_
              refine y_Vi [_] _ kX7_248 (c7_unl (hI.l (hw.tr WL.m69)) (by omega) (by rw [mset_eq]; exact vk (by omega))) rfl rfl dX7_goOn_41 rfl rfl (Nat.le_of_ble_eq_true rfl) (Nat.le_of_ble_eq_true rfl) ⟨Nat.zero_le _, Nat.zero_le _⟩ ?_
              refine z_if_ne 60 dX7_goOn_44 (by decide) (fun c_6 => ?_) (fun c_6 => ?_)
              · have hfound : rgox D Y q mm = i := by rw [hr2]; simp [sskip, rsk, c_2, c_5, c_6]
                refine z_aload_n 0 dX7_goOn_60 rfl rfl ?_
                refine y_getR fX7_54 dX7_goOn_61 rfl rfl ?_
                refine z_iload_n 2 dX7_goOn_64 rfl rfl ?_
                refine y_ald (N := q) dX7_goOn_65 rfl rfl (by omega) ?_
                refine z_itop (y := (Int32.ofNat i)) (mset_eq _ _ _ _) ?_
                refine z_aload_n 0 dX7_goOn_66 rfl rfl ?_
                refine y_getR fX7_36 dX7_goOn_67 rfl rfl ?_
                refine z_iconst 0 dX7_goOn_70 (by decide) ?_
                refine y_ald (N := 0) dX7_goOn_71 rfl rfl (by decide) ?_
                refine z_icmp_ge 79 dX7_goOn_72 (by decide) (fun c_7 => ?_) (fun c_7 => ?_)
                · exact (ds rfl ((hI.l (hw.tr WL.m69)).2.2.1) (by omega) (by omega) c_7).elim
                · have hlt : i < Y := by omega
                  refine z_iconst 1 dX7_goOn_75 (by decide) ?_
                  refine z_goto 80 dX7_goOn_76 (by decide) ?_
                  refine z_istore_n (lv' := [(3, .int 1), (0, .ref 57), (1, .int (Int32.ofNat N)), (2, .int (Int32.ofNat q))]) dX7_goOn_80 rfl (Nat.le_of_ble_eq_true rfl) rfl ?_
                  refine z_iload_n 3 dX7_goOn_81 rfl rfl ?_
                  refine z_iload_n 0 dX7_goOn_82 rfl rfl ?_
                  refine z_if_ne 90 dX7_goOn_83 (by decide) (fun _ => ?_) (fun c => absurd c (by decide))
                  refine z_iconst 0 dX7_goOn_90 (by decide) ?_
                  refine y_Si [_] _ kX7_157 (c7_one (by first | exact rlf01 _ _ _ | exact roff01 _ _ _ _ _ | decide)) dX7_goOn_91 rfl rfl (Nat.le_of_ble_eq_true rfl) (Nat.le_of_ble_eq_true rfl) ⟨Nat.zero_le _, Nat.zero_le _⟩ ?_
                  refine z_isub dX7_goOn_94 ?_
                  refine z_itop (y := (Int32.ofNat q)) (Int32.sub_zero _) ?_
                  refine z_istore_n (lv' := [(2, .int (Int32.ofNat q)), (3, .int 1), (0, .ref 57), (1, .int (Int32.ofNat N))]) dX7_goOn_95 rfl (Nat.le_of_ble_eq_true rfl) rfl ?_
                  refine z_goto 6 dX7_goOn_96 (by decide) ?_
                  refine z_iload_n 0 dX7_goOn_6 rfl rfl ?_
                  refine z_if_lt 99 dX7_goOn_7 (by decide) (fun c_8 => ?_) (fun c_8 => ?_)
                  · exact (lt0 (by omega) c_8).elim
                  · refine z_iload_n 1 dX7_goOn_10 rfl rfl ?_
                    refine z_if_ne 99 dX7_goOn_11 (by decide) (fun _ => ?_) (fun c => absurd c (by decide))
                    refine z_iload_n 1 dX7_goOn_99 rfl rfl ?_
                    refine z_if_eq 118 dX7_goOn_100 (by decide) (fun c => absurd c (by decide)) (fun _ => ?_)
                    refine z_aload_n 2 dX7_goOn_103 rfl rfl ?_
                    refine z_iload_n 0 dX7_goOn_104 rfl rfl ?_
                    refine z_iconst 1 dX7_goOn_105 (by decide) ?_
                    refine z_iadd dX7_goOn_106 ?_
                    refine z_itop (y := (Int32.ofNat (q + 1))) (nat_succ q) ?_
                    refine z_iload_n 3 dX7_goOn_107 rfl rfl ?_
                    refine y_Vi [_, _] _ kX7_251 (c7_fill (hI.l (hw.tr WL.m69)) (by omega) (by omega)) rfl rfl dX7_goOn_108 rfl rfl (Nat.le_of_ble_eq_true rfl) (Nat.le_of_ble_eq_true rfl) ⟨Nat.zero_le _, Nat.zero_le _⟩ ?_
                    refine z_itop (y := 1) rfl ?_
                    refine z_if_eq 118 dX7_goOn_111 (by decide) (fun c => absurd c (by decide)) (fun _ => ?_)
                    refine z_iconst 1 dX7_goOn_114 (by decide) ?_
                    refine z_goto 119 dX7_goOn_115 (by decide) ?_
                    exact y_zret dX7_goOn_119 rfl (by decide) (by first | (rw [hr]; simp only [rgo, hfound, if_pos hlt]; done) | (rw [hr]; rfl)) (by first | (rw [hr]; simp only [rgo, hfound, if_pos hlt]; done) | (rw [hr]; rfl))
              · refine z_aload_n 0 dX7_goOn_47 rfl rfl ?_
                refine y_getR fX7_54 dX7_goOn_48 rfl rfl ?_
                refine z_iload_n 2 dX7_goOn_51 rfl rfl ?_
                refine z_dup2 dX7_goOn_52 rfl rfl ?_
                refine y_ald (N := q) dX7_goOn_53 rfl rfl (by omega) ?_
                refine z_iconst 1 dX7_goOn_54 (by decide) ?_
                refine z_iadd dX7_goOn_55 ?_
                refine y_ast (N := q) dX7_goOn_56 rfl rfl (by omega) ?_
                refine z_goto 24 dX7_goOn_57 (by decide) ?_
                refine y_mem (m1 := mset mm 69 q (Int32.ofNat (i + 1))) (by rw [mset_mset, mset_eq, nat_succ]) ?_
                refine z_sub [0,1,2] rfl ?_
                exact ih24 (i + 1)  (by omega) (by rw [hr2]; simp [sskip, rsk, c_5, c_6])
        refine z_sub [0,1,2] rfl ?_
        exact loop24 (Y - ((mm 69 q).toNatClampNeg + 1)) ((mm 69 q).toNatClampNeg + 1) (by have := vl (hv2 q (by omega)); omega) rfl
  refine z_sub [2,3,1,0] rfl ?_
  exact loop6 N _ (Nat.le_refl _) hv rfl (WL.rf m)
set_option maxRecDepth 100000 in
set_option maxHeartbeats 4000000 in
theorem c7_fl {m : zmem} {D Y C L W : Nat} (hI : RI m D Y C L W) {mR : zmem} {F : Nat} (hP : Int32.ofNat (rfm m D).1 ≤ rnfree (rfm m D).2 D Y → rlsP D Y C (rfm m D).1 F (rl0 m D Y) mR) : Ei MX7_findLaying 5 [.ref 57] m ((rk_fl m D Y mR).1) ((rk_fl m D Y mR).2) := by
  obtain ⟨hD, hD7, hY, hY8, hC, hC8, hL, hL4, hW, hW20⟩ := id hI
  refine Ei.of (by decide) (Nat.le_of_ble_eq_true rfl) ?_
  show Z _ 0 [(0, .ref 57)] _ _ _ _
  refine z_aload_n 0 dX7_findLaying_0 rfl rfl ?_
  refine z_iconst 0 dX7_findLaying_1 (by decide) ?_
  refine z_bipush 100 dX7_findLaying_2 (by decide) ?_
  refine y_V0 [_, _] _ kX7_257 (c7_copy (X := 0) (Y := 100) (by decide) (by decide)) rfl rfl dX7_findLaying_4 rfl rfl (Nat.le_of_ble_eq_true rfl) (Nat.le_of_ble_eq_true rfl) ⟨Nat.zero_le _, Nat.zero_le _⟩ ?_
  refine z_iconst 0 dX7_findLaying_7 (by decide) ?_
  refine z_istore_n (lv' := [(1, .int 0), (0, .ref 57)]) dX7_findLaying_8 rfl (Nat.le_of_ble_eq_true rfl) rfl ?_
  refine z_iconst 0 dX7_findLaying_9 (by decide) ?_
  refine z_istore_n (lv' := [(2, .int 0), (1, .int 0), (0, .ref 57)]) dX7_findLaying_10 rfl (Nat.le_of_ble_eq_true rfl) rfl ?_
  refine z_iconst 0 dX7_findLaying_11 (by decide) ?_
  refine z_istore_n (lv' := [(3, .int 0), (2, .int 0), (1, .int 0), (0, .ref 57)]) dX7_findLaying_12 rfl (Nat.le_of_ble_eq_true rfl) rfl ?_
  have loop13 : ∀ (n : Nat) (k : Nat) (t : Nat) (mm : zmem), k + n = D → t ≤ k → (∀ j, j < t → vp_in (mm 68 j) 8) → rfm m D = sfold rth n k (t, mm) → WL m mm → Z (zMB (Qi ((rk_fl m D Y mR).1) ((rk_fl m D Y mR).2)) 5 MX7_findLaying) 13 [(0, .ref 57), (1, .int (Int32.ofNat t)), (2, .int 0), (3, .int (Int32.ofNat k))] [] (hp mm) 0 0 := by
    intro n
    induction n with
    | zero =>
      intro k t mm hk ht hth hr hw
      refine z_iload_n 3 dX7_findLaying_13 rfl rfl ?_
      refine z_aload_n 0 dX7_findLaying_14 rfl rfl ?_
      refine y_getR fX7_36 dX7_findLaying_15 rfl rfl ?_
      refine z_iconst 1 dX7_findLaying_18 (by decide) ?_
      refine y_ald (N := 1) dX7_findLaying_19 rfl rfl (by decide) ?_
      refine z_icmp_ge 48 dX7_findLaying_20 (by decide) (fun c_1 => ?_) (fun c_1 => ?_)
      · refine z_iconst 0 dX7_findLaying_48 (by decide) ?_
        refine z_istore_n (lv' := [(3, .int 0), (0, .ref 57), (1, .int (Int32.ofNat t)), (2, .int 0)]) dX7_findLaying_49 rfl (Nat.le_of_ble_eq_true rfl) rfl ?_
        have loop50 : ∀ (p : Nat) (j : Nat) (fr : Int32), j + p = Y → rnfree mm D Y = sfold (fun k s => s + rfree mm D (Int32.ofNat k)) p j fr → Z (zMB (Qi ((rk_fl m D Y mR).1) ((rk_fl m D Y mR).2)) 5 MX7_findLaying) 50 [(0, .ref 57), (1, .int (Int32.ofNat t)), (2, .int fr), (3, .int (Int32.ofNat j))] [] (hp mm) 0 0 := by
          intro p
          induction p with
          | zero =>
            intro j fr hj hr2
            refine z_iload_n 3 dX7_findLaying_50 rfl rfl ?_
            refine z_aload_n 0 dX7_findLaying_51 rfl rfl ?_
            refine y_getR fX7_36 dX7_findLaying_52 rfl rfl ?_
            refine z_iconst 0 dX7_findLaying_55 (by decide) ?_
            refine y_ald (N := 0) dX7_findLaying_56 rfl rfl (by decide) ?_
            refine z_icmp_ge 77 dX7_findLaying_57 (by decide) (fun c_2 => ?_) (fun c_2 => ?_)
            · refine z_iload_n 1 dX7_findLaying_77 rfl rfl ?_
              refine z_iload_n 2 dX7_findLaying_78 rfl rfl ?_
              refine z_icmp_le 84 dX7_findLaying_79 (by decide) (fun c_3 => ?_) (fun c_3 => ?_)
              · have hfl : rk_fl m D Y mR = (1, mR) := by simp [rk_fl, show rfm m D = (t, mm) from hr, show rnfree mm D Y = fr from hr2, c_3]
                replace hP := hP (by rw [show rfm m D = (t, mm) from hr]; show _ ≤ rnfree mm D Y; rw [show rnfree mm D Y = fr from hr2]; exact c_3)
                rw [rl0, show rfm m D = (t, mm) from hr] at hP
                refine z_aload_n 0 dX7_findLaying_84 rfl rfl ?_
                refine z_iconst (-1) dX7_findLaying_85 (by decide) ?_
                refine y_putI fX7_261 dX7_findLaying_86 rfl rfl ?_
                refine z_aload_n 0 dX7_findLaying_89 rfl rfl ?_
                refine z_iconst 0 dX7_findLaying_90 (by decide) ?_
                refine z_iload_n 1 dX7_findLaying_91 rfl rfl ?_
                refine y_Vi [_, _] _ kX7_251 (c7_fill (a := 0) (hI.l (hw.tr WL.m57)) (Nat.zero_le _) (by omega)) rfl rfl dX7_findLaying_92 rfl rfl (Nat.le_of_ble_eq_true rfl) (Nat.le_of_ble_eq_true rfl) ⟨Nat.zero_le _, Nat.zero_le _⟩ ?_
                refine z_itop (y := 1) rfl ?_
                refine z_istore_n (lv' := [(3, .int 1), (0, .ref 57), (1, .int (Int32.ofNat t)), (2, .int fr)]) dX7_findLaying_95 rfl (Nat.le_of_ble_eq_true rfl) rfl ?_
                have loop96 : ∀ (f : Nat) (mm2 : zmem), rlsP D Y C t f mm2 mR → WL mm mm2 → (∀ j, j < t → vp_in (mm2 68 j) 8) → Z (zMB (Qi ((rk_fl m D Y mR).1) ((rk_fl m D Y mR).2)) 5 MX7_findLaying) 96 [(0, .ref 57), (1, .int (Int32.ofNat t)), (3, .int 1)] [] (hp mm2) 0 0 := by
                  intro f
                  induction f with
                  | zero =>
                    intro mm2 hP hw2 hth2
                    exact hP.elim
                  | succ f ih96 =>
                    intro mm2 hP hw2 hth2
                    obtain ⟨hv, hP⟩ := hP
                    refine z_iload_n 2 dX7_findLaying_96 rfl rfl ?_
                    refine z_if_eq 218 dX7_findLaying_97 (by decide) (fun c => absurd c (by decide)) (fun _ => ?_)
                    refine z_iconst 0 dX7_findLaying_100 (by decide) ?_
                    refine z_istore (lv' := [(4, .int 0), (0, .ref 57), (1, .int (Int32.ofNat t)), (3, .int 1)]) dX7_findLaying_101 (Nat.le_of_ble_eq_true rfl) rfl ?_
                    have loop103 : ∀ (p3 : Nat) (kk : Nat) (mm3 : zmem), kk + p3 = t → rev1 t mm2 = sfold rpl p3 kk mm3 → WL mm2 mm3 → mm3 68 = mm2 68 → Z (zMB (Qi ((rk_fl m D Y mR).1) ((rk_fl m D Y mR).2)) 5 MX7_findLaying) 103 [(0, .ref 57), (1, .int (Int32.ofNat t)), (4, .int (Int32.ofNat kk))] [] (hp mm3) 0 0 := by
                      intro p3
                      induction p3 with
                      | zero =>
                        intro kk mm3 hkk hr3 hw3 h68
                        refine z_iload 2 dX7_findLaying_103 rfl ?_
                        refine z_iload_n 1 dX7_findLaying_105 rfl rfl ?_
                        refine z_icmp_ge 138 dX7_findLaying_106 (by decide) (fun c_4 => ?_) (fun c_4 => ?_)
                        · refine z_aload_n 0 dX7_findLaying_138 rfl rfl ?_
                          refine z_bipush 100 dX7_findLaying_139 (by decide) ?_
                          refine y_Vi [_] _ kX7_245 (c7_quar (X := 100) (hI.l (hw.tr (hw2.tr hw3))) (by decide)) rfl rfl dX7_findLaying_141 rfl rfl (Nat.le_of_ble_eq_true rfl) (Nat.le_of_ble_eq_true rfl) ⟨Nat.zero_le _, Nat.zero_le _⟩ ?_
                          refine z_topi (fun v_5 e_5 => ?_)
                          refine z_istore (lv' := [(4, .int v_5), (0, .ref 57), (1, .int (Int32.ofNat t))]) dX7_findLaying_144 (Nat.le_of_ble_eq_true rfl) rfl ?_
                          have join197 : ∀ (mm5 : zmem), mm5 = reval C D t mm2 → Z (zMB (Qi ((rk_fl m D Y mR).1) ((rk_fl m D Y mR).2)) 5 MX7_findLaying) 197 [(0, .ref 57), (1, .int (Int32.ofNat t))] [] (hp mm5) 0 0 := by
                            intro mm5 hm5
                            rw [← hm5] at hP
                            refine z_iload_n 1 dX7_findLaying_197 rfl rfl ?_
                            refine z_if_le 213 dX7_findLaying_198 (by decide) (fun c_6 => ?_) (fun c_6 => ?_)
                            · refine z_iconst 0 dX7_findLaying_213 (by decide) ?_
                              refine z_istore_n (lv' := [(3, .int 0), (0, .ref 57), (1, .int (Int32.ofNat t))]) dX7_findLaying_214 rfl (Nat.le_of_ble_eq_true rfl) rfl ?_
                              refine z_goto 96 dX7_findLaying_215 (by decide) ?_
                              refine z_iload_n 0 dX7_findLaying_96 rfl rfl ?_
                              refine z_if_eq 218 dX7_findLaying_97 (by decide) (fun _ => ?_) (fun c => absurd c (by decide))
                              refine z_iconst 1 dX7_findLaying_218 (by decide) ?_
                              exact y_zret dX7_findLaying_219 rfl (by decide) (by first | rw [hfl] | simp [rk_fl, show rfm m D = (t, mm) from hr, show rnfree mm D Y = fr from hr2, c_1, c_2, c_3, c_4, c_6]) (by first | (rw [hfl]; first | (rw [if_pos (le0 (by assumption) (by omega))] at hP; exact hP.symm) | (rw [if_neg ht0, if_pos (show (rgo D Y t t mm5).1 = 0 by assumption)] at hP; exact hP.symm)) | simp [rk_fl, show rfm m D = (t, mm) from hr, show rnfree mm D Y = fr from hr2, c_1, c_2, c_3, c_4, c_6])
                            · have ht0 : ¬ t = 0 := fun e => c_6 (by rw [e]; decide)
                              refine z_aload_n 0 dX7_findLaying_201 rfl rfl ?_
                              refine z_iload_n 1 dX7_findLaying_202 rfl rfl ?_
                              refine y_Vi [_] _ kX7_264 (c7_goOn (hI.l (hw.tr (hw2.tr (hm5 ▸ WL.eval C D t mm2)))) (by omega) (by rw [hm5, reval_cell (by decide) (by decide) (by decide)]; exact hv)) rfl rfl dX7_findLaying_203 rfl rfl (Nat.le_of_ble_eq_true rfl) (Nat.le_of_ble_eq_true rfl) ⟨Nat.zero_le _, Nat.zero_le _⟩ ?_
                              refine z_if_eq 213 dX7_findLaying_206 (by decide) (fun c_7 => ?_) (fun c_7 => ?_)
                              · refine z_iconst 0 dX7_findLaying_213 (by decide) ?_
                                refine z_istore_n (lv' := [(3, .int 0), (0, .ref 57), (1, .int (Int32.ofNat t))]) dX7_findLaying_214 rfl (Nat.le_of_ble_eq_true rfl) rfl ?_
                                refine z_goto 96 dX7_findLaying_215 (by decide) ?_
                                refine z_iload_n 0 dX7_findLaying_96 rfl rfl ?_
                                refine z_if_eq 218 dX7_findLaying_97 (by decide) (fun _ => ?_) (fun c => absurd c (by decide))
                                refine z_iconst 1 dX7_findLaying_218 (by decide) ?_
                                exact y_zret dX7_findLaying_219 rfl (by decide) (by first | rw [hfl] | simp [rk_fl, show rfm m D = (t, mm) from hr, show rnfree mm D Y = fr from hr2, c_1, c_2, c_3, c_4, c_6, c_7]) (by first | (rw [hfl]; first | (rw [if_pos (le0 (by assumption) (by omega))] at hP; exact hP.symm) | (rw [if_neg ht0, if_pos (show (rgo D Y t t mm5).1 = 0 by assumption)] at hP; exact hP.symm)) | simp [rk_fl, show rfm m D = (t, mm) from hr, show rnfree mm D Y = fr from hr2, c_1, c_2, c_3, c_4, c_6, c_7])
                              · refine z_iconst 1 dX7_findLaying_209 (by decide) ?_
                                refine z_goto 214 dX7_findLaying_210 (by decide) ?_
                                refine z_istore_n (lv' := [(3, .int 1), (0, .ref 57), (1, .int (Int32.ofNat t))]) dX7_findLaying_214 rfl (Nat.le_of_ble_eq_true rfl) rfl ?_
                                refine z_goto 96 dX7_findLaying_215 (by decide) ?_
                                refine z_sub [1,2,0] rfl ?_
                                exact ih96 _ (by rw [if_neg ht0, if_neg (show ¬ (rgo D Y t t mm5).1 = 0 by assumption)] at hP; exact hP) (hw2.tr ((hm5 ▸ WL.eval C D t mm2).tr (WL.go _ _ _ _ _))) (fun j hj => by rw [rgo_cell (by decide), hm5, reval_cell (by decide) (by decide) (by decide)]; exact hth2 j hj)
                          refine z_aload_n 1 dX7_findLaying_146 rfl rfl ?_
                          refine y_getI fX7_261 dX7_findLaying_147 rfl rfl ?_
                          refine z_if_lt 162 dX7_findLaying_150 (by decide) (fun c_8 => ?_) (fun c_8 => ?_)
                          · refine z_aload_n 1 dX7_findLaying_162 rfl rfl ?_
                            refine z_iload 0 dX7_findLaying_163 rfl ?_
                            refine y_putI fX7_261 dX7_findLaying_165 rfl rfl ?_
                            refine z_iconst 0 dX7_findLaying_168 (by decide) ?_
                            refine z_istore (lv' := [(5, .int 0), (4, .int v_5), (0, .ref 57), (1, .int (Int32.ofNat t))]) dX7_findLaying_169 (Nat.le_of_ble_eq_true rfl) rfl ?_
                            have loop171 : ∀ (p4 : Nat) (k4 : Nat) (mm4 : zmem), k4 + p4 = t → rev2 C D t mm3 = sfold rbc p4 k4 mm4 → Z (zMB (Qi ((rk_fl m D Y mR).1) ((rk_fl m D Y mR).2)) 5 MX7_findLaying) 171 [(0, .ref 57), (1, .int (Int32.ofNat t)), (5, .int (Int32.ofNat k4))] [] (hp mm4) 0 0 := by
                              intro p4
                              induction p4 with
                              | zero =>
                                intro k4 mm4 hk4 hr4
                                refine z_iload 2 dX7_findLaying_171 rfl ?_
                                refine z_iload_n 1 dX7_findLaying_173 rfl rfl ?_
                                refine z_icmp_ge 197 dX7_findLaying_174 (by decide) (fun c_9 => ?_) (fun c_9 => ?_)
                                · refine z_sub [0,1] rfl ?_
                                  exact join197 _ (by simp only [reval, show rev1 t mm2 = mm3 from hr3, ← e_5, c_1, c_2, c_3, c_4, c_8, c_9, if_true, if_false, reduceIte, not_true_eq_false, not_false_eq_true] <;> first | rfl | exact hr4.symm)
                                · exact (dz rfl (b := Int32.ofNat t) (N := t) rfl (by omega) (by omega) c_9).elim
                              | succ p4 ih171 =>
                                intro k4 mm4 hk4 hr4
                                refine z_iload 2 dX7_findLaying_171 rfl ?_
                                refine z_iload_n 1 dX7_findLaying_173 rfl rfl ?_
                                refine z_icmp_ge 197 dX7_findLaying_174 (by decide) (fun c_10 => ?_) (fun c_10 => ?_)
                                · exact (ds rfl (b := Int32.ofNat t) (N := t) rfl (by omega) (by omega) c_10).elim
                                · refine z_aload_n 0 dX7_findLaying_177 rfl rfl ?_
                                  refine y_getR fX7_57 dX7_findLaying_178 rfl rfl ?_
                                  refine z_iload 2 dX7_findLaying_181 rfl ?_
                                  refine z_aload_n 0 dX7_findLaying_183 rfl rfl ?_
                                  refine y_getR fX7_54 dX7_findLaying_184 rfl rfl ?_
                                  refine z_iload 2 dX7_findLaying_187 rfl ?_
                                  refine y_ald (N := k4) dX7_findLaying_189 rfl rfl (by omega) ?_
                                  refine y_ast (N := k4) dX7_findLaying_190 rfl rfl (by omega) ?_
                                  obtain ⟨v_11, e_11⟩ : ∃ y : Int32, y = (Int32.ofNat k4) + 1 := ⟨_, rfl⟩
                                  refine z_iinc (lv' := [(5, .int v_11), (0, .ref 57), (1, .int (Int32.ofNat t))]) 2 v_11 dX7_findLaying_191 rfl (by rw [e_11]; rfl) (Nat.le_of_ble_eq_true rfl) rfl ?_
                                  refine z_goto 171 dX7_findLaying_194 (by decide) ?_
                                  obtain rfl : v_11 = Int32.ofNat (k4 + 1) := e_11.trans (nat_succ k4)
                                  refine z_sub [1,2,0] rfl ?_
                                  exact ih171 (k4 + 1) _ (by omega) hr4
                            refine z_sub [2,3,0] rfl ?_
                            exact loop171 (t) 0 _ (by omega) (by simp only [rev2, e_5])
                          · refine z_iload 0 dX7_findLaying_153 rfl ?_
                            refine z_aload_n 1 dX7_findLaying_155 rfl rfl ?_
                            refine y_getI fX7_261 dX7_findLaying_156 rfl rfl ?_
                            refine z_icmp_ge 197 dX7_findLaying_159 (by decide) (fun c_12 => ?_) (fun c_12 => ?_)
                            · refine z_sub [1,2] rfl ?_
                              exact join197 _ (by simp only [reval, show rev1 t mm2 = mm3 from hr3, ← e_5, c_1, c_2, c_3, c_4, c_8, c_12, if_true, if_false, reduceIte, not_true_eq_false, not_false_eq_true] <;> first | rfl | exact hr4.symm)
                            · refine z_aload_n 1 dX7_findLaying_162 rfl rfl ?_
                              refine z_iload 0 dX7_findLaying_163 rfl ?_
                              refine y_putI fX7_261 dX7_findLaying_165 rfl rfl ?_
                              refine z_iconst 0 dX7_findLaying_168 (by decide) ?_
                              refine z_istore (lv' := [(5, .int 0), (4, .int v_5), (0, .ref 57), (1, .int (Int32.ofNat t))]) dX7_findLaying_169 (Nat.le_of_ble_eq_true rfl) rfl ?_
                              have loop171 : ∀ (p4 : Nat) (k4 : Nat) (mm4 : zmem), k4 + p4 = t → rev2 C D t mm3 = sfold rbc p4 k4 mm4 → Z (zMB (Qi ((rk_fl m D Y mR).1) ((rk_fl m D Y mR).2)) 5 MX7_findLaying) 171 [(0, .ref 57), (1, .int (Int32.ofNat t)), (5, .int (Int32.ofNat k4))] [] (hp mm4) 0 0 := by
                                intro p4
                                induction p4 with
                                | zero =>
                                  intro k4 mm4 hk4 hr4
                                  refine z_iload 2 dX7_findLaying_171 rfl ?_
                                  refine z_iload_n 1 dX7_findLaying_173 rfl rfl ?_
                                  refine z_icmp_ge 197 dX7_findLaying_174 (by decide) (fun c_13 => ?_) (fun c_13 => ?_)
                                  · refine z_sub [0,1] rfl ?_
                                    exact join197 _ (by simp only [reval, show rev1 t mm2 = mm3 from hr3, ← e_5, c_1, c_2, c_3, c_4, c_8, c_12, c_13, if_true, if_false, reduceIte, not_true_eq_false, not_false_eq_true] <;> first | rfl | exact hr4.symm)
                                  · exact (dz rfl (b := Int32.ofNat t) (N := t) rfl (by omega) (by omega) c_13).elim
                                | succ p4 ih171 =>
                                  intro k4 mm4 hk4 hr4
                                  refine z_iload 2 dX7_findLaying_171 rfl ?_
                                  refine z_iload_n 1 dX7_findLaying_173 rfl rfl ?_
                                  refine z_icmp_ge 197 dX7_findLaying_174 (by decide) (fun c_14 => ?_) (fun c_14 => ?_)
                                  · exact (ds rfl (b := Int32.ofNat t) (N := t) rfl (by omega) (by omega) c_14).elim
                                  · refine z_aload_n 0 dX7_findLaying_177 rfl rfl ?_
                                    refine y_getR fX7_57 dX7_findLaying_178 rfl rfl ?_
                                    refine z_iload 2 dX7_findLaying_181 rfl ?_
                                    refine z_aload_n 0 dX7_findLaying_183 rfl rfl ?_
                                    refine y_getR fX7_54 dX7_findLaying_184 rfl rfl ?_
                                    refine z_iload 2 dX7_findLaying_187 rfl ?_
                                    refine y_ald (N := k4) dX7_findLaying_189 rfl rfl (by omega) ?_
                                    refine y_ast (N := k4) dX7_findLaying_190 rfl rfl (by omega) ?_
                                    obtain ⟨v_15, e_15⟩ : ∃ y : Int32, y = (Int32.ofNat k4) + 1 := ⟨_, rfl⟩
                                    refine z_iinc (lv' := [(5, .int v_15), (0, .ref 57), (1, .int (Int32.ofNat t))]) 2 v_15 dX7_findLaying_191 rfl (by rw [e_15]; rfl) (Nat.le_of_ble_eq_true rfl) rfl ?_
                                    refine z_goto 171 dX7_findLaying_194 (by decide) ?_
                                    obtain rfl : v_15 = Int32.ofNat (k4 + 1) := e_15.trans (nat_succ k4)
                                    refine z_sub [1,2,0] rfl ?_
                                    exact ih171 (k4 + 1) _ (by omega) hr4
                              refine z_sub [2,3,0] rfl ?_
                              exact loop171 (t) 0 _ (by omega) (by simp only [rev2, e_5])
                        · exact (dz rfl (b := Int32.ofNat t) (N := t) rfl (by omega) (by omega) c_4).elim
                      | succ p3 ih103 =>
                        intro kk mm3 hkk hr3 hw3 h68
                        refine z_iload 2 dX7_findLaying_103 rfl ?_
                        refine z_iload_n 1 dX7_findLaying_105 rfl rfl ?_
                        refine z_icmp_ge 138 dX7_findLaying_106 (by decide) (fun c_16 => ?_) (fun c_16 => ?_)
                        · exact (ds rfl (b := Int32.ofNat t) (N := t) rfl (by omega) (by omega) c_16).elim
                        · refine z_aload_n 0 dX7_findLaying_109 rfl rfl ?_
                          refine y_getR fX7_7 dX7_findLaying_110 rfl rfl ?_
                          refine z_sipush 140 dX7_findLaying_113 (by decide) ?_
                          refine z_aload_n 0 dX7_findLaying_116 rfl rfl ?_
                          refine y_getR fX7_51 dX7_findLaying_117 rfl rfl ?_
                          refine z_iload 2 dX7_findLaying_120 rfl ?_
                          refine y_ald (N := kk) dX7_findLaying_122 rfl rfl (by omega) ?_
                          refine z_itop (y := (mm3 68 kk)) rfl ?_
                          refine z_iadd dX7_findLaying_123 ?_
                          refine z_aload_n 0 dX7_findLaying_124 rfl rfl ?_
                          refine y_getR fX7_54 dX7_findLaying_125 rfl rfl ?_
                          refine z_iload 2 dX7_findLaying_128 rfl ?_
                          refine y_ald (N := kk) dX7_findLaying_130 rfl rfl (by omega) ?_
                          refine y_wst (X := 100) (o := 40) (d := mm3 68 kk) dX7_findLaying_131 (wiB (by rw [h68]; exact hth2 kk (by omega))) (wb (by decide) (by rw [h68]; exact hth2 kk (by omega)) (by decide)) ?_
                          obtain ⟨v_17, e_17⟩ : ∃ y : Int32, y = (Int32.ofNat kk) + 1 := ⟨_, rfl⟩
                          refine z_iinc (lv' := [(4, .int v_17), (0, .ref 57), (1, .int (Int32.ofNat t))]) 2 v_17 dX7_findLaying_132 rfl (by rw [e_17]; rfl) (Nat.le_of_ble_eq_true rfl) rfl ?_
                          refine z_goto 103 dX7_findLaying_135 (by decide) ?_
                          obtain rfl : v_17 = Int32.ofNat (kk + 1) := e_17.trans (nat_succ kk)
                          refine z_sub [1,2,0] rfl ?_
                          exact ih103 (kk + 1) _ (by omega) hr3 (hw3.tr WL.wp) (by rw [wp, mset_cell _ (by decide)]; exact h68)
                    refine z_sub [1,2,0] rfl ?_
                    exact loop103 (t) 0 _ (by omega) rfl (WL.rf mm2) rfl
                refine z_sub [1,2,0] rfl ?_
                exact loop96 F _ hP (WL.m57.tr (WL.fill _ _ _ _ _)) (fun j hj => by rw [rfill_cell (by decide), mset_cell _ (by decide)]; exact hth j hj)
              · refine z_iconst 0 dX7_findLaying_82 (by decide) ?_
                exact y_zret dX7_findLaying_83 rfl (by decide) (by first | rw [hfl] | simp [rk_fl, show rfm m D = (t, mm) from hr, show rnfree mm D Y = fr from hr2, c_1, c_2, c_3]) (by first | (rw [hfl]; first | (rw [if_pos (le0 (by assumption) (by omega))] at hP; exact hP.symm) | (rw [if_neg ht0, if_pos (show (rgo D Y t t mm5).1 = 0 by assumption)] at hP; exact hP.symm)) | simp [rk_fl, show rfm m D = (t, mm) from hr, show rnfree mm D Y = fr from hr2, c_1, c_2, c_3])
            · exact (dz rfl ((hI.l hw).2.2.1) (by omega) (by omega) c_2).elim
          | succ p ih50 =>
            intro j fr hj hr2
            refine z_iload_n 3 dX7_findLaying_50 rfl rfl ?_
            refine z_aload_n 0 dX7_findLaying_51 rfl rfl ?_
            refine y_getR fX7_36 dX7_findLaying_52 rfl rfl ?_
            refine z_iconst 0 dX7_findLaying_55 (by decide) ?_
            refine y_ald (N := 0) dX7_findLaying_56 rfl rfl (by decide) ?_
            refine z_icmp_ge 77 dX7_findLaying_57 (by decide) (fun c_18 => ?_) (fun c_18 => ?_)
            · exact (ds rfl ((hI.l hw).2.2.1) (by omega) (by omega) c_18).elim
            · refine z_iload_n 2 dX7_findLaying_60 rfl rfl ?_
              refine z_aload_n 0 dX7_findLaying_61 rfl rfl ?_
              refine z_iload_n 3 dX7_findLaying_62 rfl rfl ?_
              refine y_Vi [_] _ kX7_254 (c7_free (hI.l hw) (vk (by omega))) rfl rfl dX7_findLaying_63 rfl rfl (Nat.le_of_ble_eq_true rfl) (Nat.le_of_ble_eq_true rfl) ⟨Nat.zero_le _, Nat.zero_le _⟩ ?_
              refine y_Si [_] _ kX7_157 (c7_one (rfree01 _ _ _)) dX7_findLaying_66 rfl rfl (Nat.le_of_ble_eq_true rfl) (Nat.le_of_ble_eq_true rfl) ⟨Nat.zero_le _, Nat.zero_le _⟩ ?_
              refine z_iadd dX7_findLaying_69 ?_
              refine z_topi (fun v_19 e_19 => ?_)
              refine z_istore_n (lv' := [(2, .int v_19), (0, .ref 57), (1, .int (Int32.ofNat t)), (3, .int (Int32.ofNat j))]) dX7_findLaying_70 rfl (Nat.le_of_ble_eq_true rfl) rfl ?_
              obtain ⟨v_20, e_20⟩ : ∃ y : Int32, y = (Int32.ofNat j) + 1 := ⟨_, rfl⟩
              refine z_iinc (lv' := [(3, .int v_20), (2, .int v_19), (0, .ref 57), (1, .int (Int32.ofNat t))]) 3 v_20 dX7_findLaying_71 rfl (by rw [e_20]; rfl) (Nat.le_of_ble_eq_true rfl) rfl ?_
              refine z_goto 50 dX7_findLaying_74 (by decide) ?_
              obtain rfl : v_20 = Int32.ofNat (j + 1) := e_20.trans (nat_succ j)
              refine z_sub [2,3,1,0] rfl ?_
              exact ih50 (j + 1) _ (by omega) (hr2.trans (congrArg (sfold _ p (j + 1)) (by simp only [e_19])))
        refine z_sub [1,2,3,0] rfl ?_
        exact loop50 (Y) 0 _ (by omega) rfl
      · exact (dz rfl ((hI.l hw).1) (by omega) (by omega) c_1).elim
    | succ n ih13 =>
      intro k t mm hk ht hth hr hw
      refine z_iload_n 3 dX7_findLaying_13 rfl rfl ?_
      refine z_aload_n 0 dX7_findLaying_14 rfl rfl ?_
      refine y_getR fX7_36 dX7_findLaying_15 rfl rfl ?_
      refine z_iconst 1 dX7_findLaying_18 (by decide) ?_
      refine y_ald (N := 1) dX7_findLaying_19 rfl rfl (by decide) ?_
      refine z_icmp_ge 48 dX7_findLaying_20 (by decide) (fun c_21 => ?_) (fun c_21 => ?_)
      · exact (ds rfl ((hI.l hw).1) (by omega) (by omega) c_21).elim
      · refine z_aload_n 0 dX7_findLaying_23 rfl rfl ?_
        refine z_iconst 0 dX7_findLaying_24 (by decide) ?_
        refine z_iload_n 3 dX7_findLaying_25 rfl rfl ?_
        refine y_Vi [_, _] _ kX7_154 (c7_lf (X := 0) (by decide) (vk (by omega))) rfl rfl dX7_findLaying_26 rfl rfl (Nat.le_of_ble_eq_true rfl) (Nat.le_of_ble_eq_true rfl) ⟨Nat.zero_le _, Nat.zero_le _⟩ ?_
        refine z_if_eq 42 dX7_findLaying_29 (by decide) (fun c_22 => ?_) (fun c_22 => ?_)
        · obtain ⟨v_23, e_23⟩ : ∃ y : Int32, y = (Int32.ofNat k) + 1 := ⟨_, rfl⟩
          refine z_iinc (lv' := [(3, .int v_23), (0, .ref 57), (1, .int (Int32.ofNat t)), (2, .int 0)]) 3 v_23 dX7_findLaying_42 rfl (by rw [e_23]; rfl) (Nat.le_of_ble_eq_true rfl) rfl ?_
          refine z_goto 13 dX7_findLaying_45 (by decide) ?_
          obtain rfl : v_23 = Int32.ofNat (k + 1) := e_23.trans (nat_succ k)
          refine z_sub [1,2,3,0] rfl ?_
          exact ih13 (k + 1) _ _ (by omega) (by omega) (by first | exact hth | exact hth_s hth (vk (by omega))) (hr.trans (congrArg (sfold _ n (k + 1)) (by simp [rth, c_21, c_22]))) (by first | exact hw | exact hw.tr WL.m68)
        · refine z_aload_n 0 dX7_findLaying_32 rfl rfl ?_
          refine y_getR fX7_51 dX7_findLaying_33 rfl rfl ?_
          refine z_iload_n 1 dX7_findLaying_36 rfl rfl ?_
          refine z_iload_n 3 dX7_findLaying_37 rfl rfl ?_
          refine y_ast (N := t) dX7_findLaying_38 rfl rfl (by omega) ?_
          obtain ⟨v_24, e_24⟩ : ∃ y : Int32, y = (Int32.ofNat t) + 1 := ⟨_, rfl⟩
          refine z_iinc (lv' := [(1, .int v_24), (0, .ref 57), (2, .int 0), (3, .int (Int32.ofNat k))]) 1 v_24 dX7_findLaying_39 rfl (by rw [e_24]; rfl) (Nat.le_of_ble_eq_true rfl) rfl ?_
          obtain rfl : v_24 = Int32.ofNat (t + 1) := e_24.trans (nat_succ t)
          obtain ⟨v_25, e_25⟩ : ∃ y : Int32, y = (Int32.ofNat k) + 1 := ⟨_, rfl⟩
          refine z_iinc (lv' := [(3, .int v_25), (1, .int (Int32.ofNat (t + 1))), (0, .ref 57), (2, .int 0)]) 3 v_25 dX7_findLaying_42 rfl (by rw [e_25]; rfl) (Nat.le_of_ble_eq_true rfl) rfl ?_
          refine z_goto 13 dX7_findLaying_45 (by decide) ?_
          obtain rfl : v_25 = Int32.ofNat (k + 1) := e_25.trans (nat_succ k)
          refine z_sub [2,1,3,0] rfl ?_
          exact ih13 (k + 1) _ _ (by omega) (by omega) (by first | exact hth | exact hth_s hth (vk (by omega))) (hr.trans (congrArg (sfold _ n (k + 1)) (by simp [rth, c_21, c_22]))) (by first | exact hw | exact hw.tr WL.m68)
  refine z_sub [3,2,1,0] rfl ?_
  exact loop13 (D) 0 _ _ (by omega) (Nat.le_refl 0) (fun j hj => absurd hj (Nat.not_lt_zero j)) rfl (WL.copy m 0 100)
set_option maxRecDepth 100000 in
set_option maxHeartbeats 4000000 in
theorem c7_laying {m : zmem} {D Y C L W : Nat} (hI : RI m D Y C L W) {d : Int32} {mR : zmem} {F : Nat} (hP : Int32.ofNat (rfm m D).1 ≤ rnfree (rfm m D).2 D Y → rlsP D Y C (rfm m D).1 F (rl0 m D Y) mR) : Ei MX7_laying 6 [.ref 57, .int d] m ((rk_laying m D Y d mR).1) ((rk_laying m D Y d mR).2) := by
  obtain ⟨hD, hD7, hY, hY8, hC, hC8, hL, hL4, hW, hW20⟩ := id hI
  obtain ⟨mf, hmf⟩ : ∃ x, x = (rk_fl m D Y mR).2 := ⟨_, rfl⟩
  refine Ei.of (by decide) (Nat.le_of_ble_eq_true rfl) ?_
  show Z _ 0 [(0, .ref 57), (1, .int d)] _ _ _ _
  have join16 : d = -1 ∨ vp_in d 8 → ¬ (¬ d = -1 ∧ sin (m 64 1) d = 0) → Z (zMB (Qi ((rk_laying m D Y d mR).1) ((rk_laying m D Y d mR).2)) 6 MX7_laying) 16 [(0, .ref 57), (1, .int d)] [] (hp m) 0 0 := by
    intro hg hgg
    refine z_aload_n 0 dX7_laying_16 rfl rfl ?_
    refine y_Vi [] _ kX7_267 (c7_fl hI hP) rfl rfl dX7_laying_17 rfl rfl (Nat.le_of_ble_eq_true rfl) (Nat.le_of_ble_eq_true rfl) ⟨Nat.zero_le _, Nat.zero_le _⟩ ?_
    refine y_mem (m1 := mf) hmf.symm ?_
    refine z_if_ne 25 dX7_laying_20 (by decide) (fun c_1 => ?_) (fun c_1 => ?_)
    · refine z_iload_n 1 dX7_laying_25 rfl rfl ?_
      refine z_if_ge 34 dX7_laying_26 (by decide) (fun c_2 => ?_) (fun c_2 => ?_)
      · have hc8 : vp_in d 8 := by rcases hg with e | e; exact absurd (e ▸ c_2) (by decide); exact e
        have hcn := vl hc8
        have hcv := vp_nn hc8
        refine z_iconst 0 dX7_laying_34 (by decide) ?_
        refine z_istore_n (lv' := [(2, .int 0), (0, .ref 57), (1, .int d)]) dX7_laying_35 rfl (Nat.le_of_ble_eq_true rfl) rfl ?_
        refine z_iconst 0 dX7_laying_36 (by decide) ?_
        refine z_istore_n (lv' := [(3, .int 0), (2, .int 0), (0, .ref 57), (1, .int d)]) dX7_laying_37 rfl (Nat.le_of_ble_eq_true rfl) rfl ?_
        have loop38 : ∀ (n : Nat) (k : Nat) (t : Nat), k + n = d.toNatClampNeg → t ≤ k → (rcnt mf d.toNatClampNeg = sfold (fun k t => if rlf mf 0 (Int32.ofNat k) = 0 then t else t + 1) n k t) → Z (zMB (Qi ((rk_laying m D Y d mR).1) ((rk_laying m D Y d mR).2)) 6 MX7_laying) 38 [(0, .ref 57), (1, .int d), (2, .int (Int32.ofNat t)), (3, .int (Int32.ofNat k))] [] (hp mf) 0 0 := by
          intro n
          induction n with
          | zero =>
            intro k t hk ht hr
            refine z_iload_n 3 dX7_laying_38 rfl rfl ?_
            refine z_iload_n 1 dX7_laying_39 rfl rfl ?_
            refine z_icmp_ge 61 dX7_laying_40 (by decide) (fun c_3 => ?_) (fun c_3 => ?_)
            · refine z_aload_n 0 dX7_laying_61 rfl rfl ?_
              refine z_iconst 0 dX7_laying_62 (by decide) ?_
              refine z_iload_n 1 dX7_laying_63 rfl rfl ?_
              refine y_Vi [_, _] _ kX7_154 (c7_lf (X := 0) (by decide) hc8) rfl rfl dX7_laying_64 rfl rfl (Nat.le_of_ble_eq_true rfl) (Nat.le_of_ble_eq_true rfl) ⟨Nat.zero_le _, Nat.zero_le _⟩ ?_
              refine z_if_eq 79 dX7_laying_67 (by decide) (fun c_4 => ?_) (fun c_4 => ?_)
              · refine z_iconst (-1) dX7_laying_79 (by decide) ?_
                exact y_iret dX7_laying_80 rfl (by first | (rw [rk_laying, if_neg hgg, ← hmf]; simp only [c_1, c_2, c_3, c_4, if_true, if_false, reduceIte]; done) | (rw [rk_laying, if_neg hgg, ← hmf]; simp only [c_1, c_2, c_3, c_4, show rcnt mf d.toNatClampNeg = t from hr, if_true, if_false, reduceIte]; done) | (simp [rk_laying, c_1, c_2, c_3, c_4]; done)) (by first | (rw [rk_laying, if_neg hgg, ← hmf]; done) | (simp [rk_laying, c_1, c_2, c_3, c_4]; done))
              · refine z_aload_n 0 dX7_laying_70 rfl rfl ?_
                refine y_getR fX7_57 dX7_laying_71 rfl rfl ?_
                refine z_iload_n 2 dX7_laying_74 rfl rfl ?_
                refine y_ald (N := t) dX7_laying_75 rfl rfl (by omega) ?_
                refine z_goto 80 dX7_laying_76 (by decide) ?_
                exact y_iret dX7_laying_80 rfl (by first | (rw [rk_laying, if_neg hgg, ← hmf]; simp only [c_1, c_2, c_3, c_4, if_true, if_false, reduceIte]; done) | (rw [rk_laying, if_neg hgg, ← hmf]; simp only [c_1, c_2, c_3, c_4, show rcnt mf d.toNatClampNeg = t from hr, if_true, if_false, reduceIte]; done) | (simp [rk_laying, c_1, c_2, c_3, c_4]; done)) (by first | (rw [rk_laying, if_neg hgg, ← hmf]; done) | (simp [rk_laying, c_1, c_2, c_3, c_4]; done))
            · exact (dz rfl hcv (by omega) (by omega) c_3).elim
          | succ n ih38 =>
            intro k t hk ht hr
            refine z_iload_n 3 dX7_laying_38 rfl rfl ?_
            refine z_iload_n 1 dX7_laying_39 rfl rfl ?_
            refine z_icmp_ge 61 dX7_laying_40 (by decide) (fun c_5 => ?_) (fun c_5 => ?_)
            · exact (ds rfl hcv (by omega) (by omega) c_5).elim
            · refine z_iload_n 2 dX7_laying_43 rfl rfl ?_
              refine z_aload_n 0 dX7_laying_44 rfl rfl ?_
              refine z_iconst 0 dX7_laying_45 (by decide) ?_
              refine z_iload_n 3 dX7_laying_46 rfl rfl ?_
              refine y_Vi [_, _] _ kX7_154 (c7_lf (X := 0) (by decide) (vk (by omega))) rfl rfl dX7_laying_47 rfl rfl (Nat.le_of_ble_eq_true rfl) (Nat.le_of_ble_eq_true rfl) ⟨Nat.zero_le _, Nat.zero_le _⟩ ?_
              refine y_Si [_] _ kX7_157 (c7_one (rlf01 _ _ _)) dX7_laying_50 rfl rfl (Nat.le_of_ble_eq_true rfl) (Nat.le_of_ble_eq_true rfl) ⟨Nat.zero_le _, Nat.zero_le _⟩ ?_
              refine z_iadd dX7_laying_53 ?_
              refine z_itop (y := (Int32.ofNat (if rlf mf 0 (Int32.ofNat k) = 0 then t else t + 1))) (rlf_add _ _ _ _) ?_
              refine z_istore_n (lv' := [(2, .int (Int32.ofNat (if rlf mf 0 (Int32.ofNat k) = 0 then t else t + 1))), (0, .ref 57), (1, .int d), (3, .int (Int32.ofNat k))]) dX7_laying_54 rfl (Nat.le_of_ble_eq_true rfl) rfl ?_
              obtain ⟨v_6, e_6⟩ : ∃ y : Int32, y = (Int32.ofNat k) + 1 := ⟨_, rfl⟩
              refine z_iinc (lv' := [(3, .int v_6), (2, .int (Int32.ofNat (if rlf mf 0 (Int32.ofNat k) = 0 then t else t + 1))), (0, .ref 57), (1, .int d)]) 3 v_6 dX7_laying_55 rfl (by rw [e_6]; rfl) (Nat.le_of_ble_eq_true rfl) rfl ?_
              refine z_goto 38 dX7_laying_58 (by decide) ?_
              obtain rfl : v_6 = Int32.ofNat (k + 1) := e_6.trans (nat_succ k)
              refine z_sub [2,3,1,0] rfl ?_
              exact ih38 (k + 1) _ (by omega) (by split <;> omega) hr
        refine z_sub [2,3,1,0] rfl ?_
        exact loop38 (d.toNatClampNeg) 0 _ (by omega) (Nat.le_refl 0) rfl
      · refine z_aload_n 0 dX7_laying_29 rfl rfl ?_
        refine y_getI fX7_261 dX7_laying_30 rfl rfl ?_
        exact y_iret dX7_laying_33 rfl (by first | (rw [rk_laying, if_neg hgg, ← hmf]; simp only [c_1, c_2, if_true, if_false, reduceIte]; done) | (rw [rk_laying, if_neg hgg, ← hmf]; simp only [c_1, c_2, show rcnt mf d.toNatClampNeg = t from hr, if_true, if_false, reduceIte]; done) | (simp [rk_laying, c_1, c_2]; done)) (by first | (rw [rk_laying, if_neg hgg, ← hmf]; done) | (simp [rk_laying, c_1, c_2]; done))
    · refine z_iconst (-1) dX7_laying_23 (by decide) ?_
      exact y_iret dX7_laying_24 rfl (by first | (rw [rk_laying, if_neg hgg, ← hmf]; simp only [c_1, if_true, if_false, reduceIte]; done) | (rw [rk_laying, if_neg hgg, ← hmf]; simp only [c_1, show rcnt mf d.toNatClampNeg = t from hr, if_true, if_false, reduceIte]; done) | (simp [rk_laying, c_1]; done)) (by first | (rw [rk_laying, if_neg hgg, ← hmf]; done) | (simp [rk_laying, c_1]; done))
  refine z_iload_n 1 dX7_laying_0 rfl rfl ?_
  refine z_iconst (-1) dX7_laying_1 (by decide) ?_
  refine z_icmp_eq 16 dX7_laying_2 (by decide) (fun c_7 => ?_) (fun c_7 => ?_)
  · refine z_sub [0,1] rfl ?_
    exact join16 (Or.inl c_7) (fun q => q.1 c_7)
  · refine z_aload_n 0 dX7_laying_5 rfl rfl ?_
    refine z_iload_n 1 dX7_laying_6 rfl rfl ?_
    refine y_Vi [_] _ kX7_190 (c7_isDead hI) rfl rfl dX7_laying_7 rfl rfl (Nat.le_of_ble_eq_true rfl) (Nat.le_of_ble_eq_true rfl) ⟨Nat.zero_le _, Nat.zero_le _⟩ ?_
    refine z_if_ne 16 dX7_laying_10 (by decide) (fun c_8 => ?_) (fun c_8 => ?_)
    · refine z_sub [0,1] rfl ?_
      exact join16 (Or.inr (sin_vp hD (by omega) c_8)) (fun q => c_8 q.2)
    · refine z_ldc (-1000000001) dX7_laying_13 nX7_186 ?_
      exact y_iret dX7_laying_15 rfl (by first | (rw [rk_laying, if_neg hgg, ← hmf]; simp only [c_7, c_8, if_true, if_false, reduceIte]; done) | (rw [rk_laying, if_neg hgg, ← hmf]; simp only [c_7, c_8, show rcnt mf d.toNatClampNeg = t from hr, if_true, if_false, reduceIte]; done) | (simp [rk_laying, c_7, c_8]; done)) (by first | (rw [rk_laying, if_neg hgg, ← hmf]; done) | (simp [rk_laying, c_7, c_8]; done))
