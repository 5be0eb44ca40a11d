/-! the reference: days ahead, bribes, names, churches, books, images -/
theorem vp_lt {x : Int32} {n : Nat} (hn : n ≤ 2147483648) : vp_in x n ↔ x.toBitVec.toNat < n := by
  have e : x.toNatClampNeg = x.toInt.toNat := rfl
  have e2 : x.toInt = x.toBitVec.toInt := rfl
  have e3 := BitVec.toInt_eq_toNat_cond x.toBitVec
  have hl := x.toBitVec.isLt
  unfold vp_in
  rw [Int32.lt_iff_toInt_lt, show (0 : Int32).toInt = 0 from rfl, e, e2, e3]
  constructor
  · intro h
    split at h <;> omega
  · intro h
    rw [if_pos (by omega)]
    omega
theorem vp_and {x y : Int32} (h : vp_in x 128) : vp_in (x &&& y) 128 := by
  rw [vp_lt (by decide)] at h ⊢
  rw [Int32.toBitVec_and, BitVec.toNat_and]
  exact Nat.lt_of_le_of_lt Nat.and_le_left h
theorem vp_or {x y : Int32} (h : vp_in x 128) (g : vp_in y 128) : vp_in (x ||| y) 128 := by
  rw [vp_lt (by decide)] at h g ⊢
  rw [Int32.toBitVec_or, BitVec.toNat_or]
  exact Nat.or_lt_two_pow (n := 7) h g
theorem rl_vp {m : zmem} {X : Nat} : ∀ n k s, k + n ≤ 7 → vp_in s 128 → vp_in (sfold (fun k s => s ||| (rlf m X (Int32.ofNat k) <<< (Int32.ofNat k &&& 31))) n k s) 128 := by
  intro n
  induction n with
  | zero => intro k s _ h; exact h
  | succ n ih =>
    intro k s hk h
    refine ih (k + 1) _ (by omega) (vp_or h ?_)
    have a : ∀ k, k < 7 → vp_in ((0 : Int32) <<< (Int32.ofNat k &&& 31)) 128 ∧ vp_in ((1 : Int32) <<< (Int32.ofNat k &&& 31)) 128 := by
      unfold vp_in
      decide
    rcases rlf01 m X (Int32.ofNat k) with e | e <;> rw [e]
    · exact (a k (by omega)).1
    · exact (a k (by omega)).2
theorem loft_vp {m : zmem} {X D : Nat} (hD : D ≤ 7) : vp_in (rloft m X D) 128 := rl_vp D 0 0 (by omega) (by unfold vp_in; decide)
def rdt (m : zmem) (i h : Int32) : Int32 := if wt m 0 0 i = 0 then 0 else if rrate m h i = 0 then 1000 else (wt m 0 0 i + rrate m h i - 1) / rrate m h i
def rsb (m : zmem) (D : Nat) (h : Int32) (k j : Nat) (s : Int32) : Int32 := s + (if 0 ≤ rwho m 0 D (Int32.ofNat j) then 0 else if Int32.ofNat k < rdt m (Int32.ofNat j) h then 0 else 1)
def rsbn (m : zmem) (D Y : Nat) (h : Int32) (k : Nat) : Int32 := sfold (rsb m D h k) Y 0 0
def rwhen (m : zmem) (D Y : Nat) (n h : Int32) : Int32 := sfind (fun k => decide (¬ rsbn m D Y h k < n)) 1000 0
def rk_when (m : zmem) (D Y : Nat) (n h : Int32) : Int32 := if rini n 1 8 = 0 then -1000000002 else if rini h 1 9 = 0 then -1000000002 else rwhen m D Y n h
def rk_span (m : zmem) (D Y : Nat) (n a b w : Int32) : Int32 := if rini n 1 8 = 0 then -1000000002 else if rini a 1 9 = 0 then -1000000002 else if rini b a 9 = 0 then -1000000002 else if rini w 0 1 = 0 then -1000000002 else rwhen m D Y n (if w = 0 then b else a)
def rbrs (mm : zmem) (d : Int32) (k : Nat) : zmem := wp mm 100 24 d (rgv mm d (Int32.ofNat k))
def rbr (C D : Nat) (d p : Int32) : Nat → Nat → zmem → Int32 × zmem
  | 0, _, mm => (-1, mm)
  | n + 1, k, mm => if p < rplace (rbrs mm d k) 100 C D d then rbr C D d p n (k + 1) (rbrs mm d k) else (Int32.ofNat k, rbrs mm d k)
def rk_bribe (m : zmem) (C D : Nat) (d p : Int32) : Int32 × zmem := if sin (m 64 1) d = 0 then (-1000000001, m) else if rini p 0 6 = 0 then (-1000000002, m) else if rlf m 0 d = 0 then (-1000000003, m) else rbr C D d p 1000 0 (rcopy m 0 100)
def rk_label (m : zmem) (c n : Int32) : Int32 × zmem := if sin (m 64 1) c = 0 then (-1000000001, m) else if sin (m 64 1) n = 0 then (-1000000001, m) else (wt m 0 56 c, wp m 0 56 c n)
def rk_mark (m : zmem) (c s : Int32) : Int32 × zmem := if sin (m 64 1) c = 0 then (-1000000001, m) else if rini s 0 ((1 <<< (m 64 1 &&& 31)) - 1) = 0 then (-1000000001, m) else (wt m 0 64 c, wp m 0 64 c s)
/-- a set without one of its names -/
def rr (s : Int32) (j : Nat) : Int32 := s &&& ((1 <<< (Int32.ofNat j &&& 31)) ^^^ -1)
def rahd (D : Nat) (s : Int32) : Int32 := Int32.ofNat D - rones s
def rfv (m : zmem) (D k j : Nat) : Int32 := m 72 (rr (Int32.ofNat k) j).toNatClampNeg + (if wt m 0 56 (rahd D (Int32.ofNat k)) = Int32.ofNat j then 0 else 1)
def rfn2 (k j : Nat) (m : zmem) : zmem := mset m 71 k (m 71 k + m 71 (rr (Int32.ofNat k) j).toNatClampNeg)
def rfn1 (D k j : Nat) (m : zmem) : zmem := mset (rfn2 k j m) 72 k (if rfn2 k j m 72 k ≤ rfv m D k j then rfn2 k j m 72 k else rfv m D k j)
def rfn (D k j : Nat) (m : zmem) : zmem := if Int32.ofNat k ≤ 0 then m else if rhas (Int32.ofNat k) (Int32.ofNat j) = 0 then m else if rhas (wt m 0 64 (rahd D (Int32.ofNat k))) (Int32.ofNat j) = 0 then m else rfn1 D k j m
def rfo0 (k : Nat) (m : zmem) : zmem := mset (mset m 71 k (if Int32.ofNat k = 0 then 1 else 0)) 72 k (if Int32.ofNat k = 0 then 0 else 999)
def rfo (D k : Nat) (m : zmem) : zmem := sfold (rfn D k) D 0 (rfo0 k m)
def rnames (m : zmem) (D : Nat) : zmem := sfold (rfo D) (2 ^ D) 0 m
theorem sfold_id {α : Type} {f : Nat → α → α} (h : ∀ k s, f k s = s) : ∀ n k s, sfold f n k s = s := by
  intro n
  induction n with
  | zero => intro k s; rfl
  | succ n ih => intro k s; unfold sfold; rw [h k s]; exact ih (k + 1) s
/-- nothing but the rows of names is another -/
def W7n (m m' : zmem) : Prop := ∀ q, q ≠ 71 → q ≠ 72 → m' q = m q
theorem W7n.rf (m : zmem) : W7n m m := fun _ _ _ => rfl
theorem W7n.tr {a b c : zmem} (h : W7n a b) (g : W7n b c) : W7n a c := fun q h1 h2 => (g q h1 h2).trans (h q h1 h2)
theorem W7n.m1 {m : zmem} {j : Nat} {v : Int32} : W7n m (mset m 71 j v) := fun _ h _ => mset_cell v h
theorem W7n.m2 {m : zmem} {j : Nat} {v : Int32} : W7n m (mset m 72 j v) := fun _ _ h => mset_cell v h
theorem W7n.fold {f : Nat → zmem → zmem} (h : ∀ k m, W7n m (f k m)) : ∀ n k m, W7n m (sfold f n k m) := by
  intro n
  induction n with
  | zero => intro k m; exact W7n.rf m
  | succ n ih => intro k m; exact (h k m).tr (ih (k + 1) (f k m))
theorem W7n.fn1 (D k j : Nat) (m : zmem) : W7n m (rfn1 D k j m) := W7n.m1.tr W7n.m2
theorem W7n.fn (D k j : Nat) (m : zmem) : W7n m (rfn D k j m) := by
  unfold rfn
  repeat' split
  · exact W7n.rf m
  · exact W7n.rf m
  · exact W7n.rf m
  · exact W7n.fn1 D k j m
theorem W7n.fo0 (k : Nat) (m : zmem) : W7n m (rfo0 k m) := W7n.m1.tr W7n.m2
theorem W7n.names (m : zmem) (D : Nat) : W7n m (rnames m D) := W7n.fold (fun k m => (W7n.fo0 k m).tr (W7n.fold (W7n.fn D k) D 0 _)) _ 0 m
theorem RI.n {m m' : zmem} {D Y C L W : Nat} (h : RI m D Y C L W) (w : W7n m m') : RI m' D Y C L W := by
  obtain ⟨hD, hD7, hY, hY8, hC, hC8, hL, hL4, hW, hW20⟩ := h
  refine ⟨?_, hD7, ?_, hY8, ?_, hC8, ?_, hL4, ?_, hW20⟩ <;> rw [w _ (by decide) (by decide)] <;> assumption
theorem shl_D {D : Nat} (h : D ≤ 7) : (1 : Int32) <<< (Int32.ofNat D &&& 31) = Int32.ofNat (2 ^ D) := by
  have a : ∀ D, D < 8 → (1 : Int32) <<< (Int32.ofNat D &&& 31) = Int32.ofNat (2 ^ D) := by decide
  exact a D (by omega)
theorem shl_D1 {D : Nat} (h : D ≤ 7) : (1 : Int32) <<< (Int32.ofNat D &&& 31) - 1 = Int32.ofNat (2 ^ D - 1) := by
  have a : ∀ D, D < 8 → (1 : Int32) <<< (Int32.ofNat D &&& 31) - 1 = Int32.ofNat (2 ^ D - 1) := by decide
  exact a D (by omega)
theorem two_D {D : Nat} (h : D ≤ 7) : 2 ^ D ≤ 128 := by
  have a : ∀ D, D < 8 → 2 ^ D ≤ 128 := by decide
  exact a D (by omega)
theorem ahd_vp {D k : Nat} (h : D ≤ 7) (hk : k < 2 ^ D) : vp_in (rahd D (Int32.ofNat k)) 8 := by
  have a : ∀ D, D < 8 → ∀ k, k < 128 → k < 2 ^ D → vp_in (rahd D (Int32.ofNat k)) 8 := by
    unfold vp_in
    decide +kernel
  exact a D (by omega) k (Nat.lt_of_lt_of_le hk (two_D h)) hk
theorem rr_vp {s : Int32} (h : vp_in s 128) (j : Nat) : vp_in (rr s j) 128 := vp_and h
theorem vp_k {k : Nat} (h : k < 128) : vp_in (Int32.ofNat k) 128 := vN' h (by decide)
theorem vl4 {d : Int32} (h : vp_in d 128) : d.toNatClampNeg < 1024 := Nat.lt_of_lt_of_le (vl h) (by decide)
def rk_fits (m : zmem) (D : Nat) : Int32 × zmem := (rnames m D 71 (2 ^ D - 1), rnames m D)
def rmxc (m : zmem) (s : Int32) (k j : Nat) : Bool := decide (¬ rhas s (Int32.ofNat j) = 0 ∧ ¬ rhas (wt m 0 64 (Int32.ofNat k)) (Int32.ofNat j) = 0 ∧ ¬ m 71 (rr s j).toNatClampNeg = 0 ∧ m 72 (rr s j).toNatClampNeg + (if wt m 0 56 (Int32.ofNat k) = Int32.ofNat j then 0 else 1) = m 72 s.toNatClampNeg)
def rmxn (m : zmem) (D : Nat) (s : Int32) (k : Nat) : Int32 := sfind (rmxc m s k) D 0
def rmxs (s nm : Int32) : Int32 := s &&& ((1 <<< (nm &&& 31)) ^^^ -1)
def rmx (m : zmem) (D : Nat) : Nat → Nat → Int32 → Int32 → Int32
  | 0, _, _, nm => nm
  | n + 1, k, s, _ => rmx m D n (k + 1) (rmxs s (rmxn m D s k)) (rmxn m D s k)
/-- there is always a name to go on with -/
def rmxE (m : zmem) (D : Nat) : Nat → Nat → Int32 → Prop
  | 0, _, _ => True
  | n + 1, k, s => ¬ rmxn m D s k = -1 ∧ rmxE m D n (k + 1) (rmxs s (rmxn m D s k))
def rk_mixed (m : zmem) (D : Nat) (c : Int32) : Int32 × zmem := if ¬ c = -1 ∧ sin (m 64 1) c = 0 then (-1000000001, m) else (if rnames m D 71 (2 ^ D - 1) = 0 then -1 else if 0 ≤ c then rmx (rnames m D) D (c.toNatClampNeg + 1) 0 (Int32.ofNat (2 ^ D - 1)) 0 else rnames m D 72 (2 ^ D - 1), rnames m D)
def rcs (m : zmem) (lf : Int32) (k : Nat) (j : Nat) (s : Int32) : Int32 := s + (if rhas lf (Int32.ofNat j) = 0 then 0 else if rhas (Int32.ofNat k) (Int32.ofNat j) = 0 then 0 - wt m 0 8 (Int32.ofNat j) else wt m 0 8 (Int32.ofNat j))
def rcsum (m : zmem) (D : Nat) (lf : Int32) (k : Nat) : Int32 := sfold (rcs m lf k) D 0 0
def rci (m : zmem) (D : Nat) (lf : Int32) (k : Nat) (s : Int32 × Int32) : Int32 × Int32 := if ¬ Int32.ofNat k &&& (lf ^^^ -1) = 0 then s else if s.2 < 0 then (Int32.ofNat k, rsize (rcsum m D lf k)) else if s.2 ≤ rsize (rcsum m D lf k) then s else (Int32.ofNat k, rsize (rcsum m D lf k))
def rchs (m : zmem) (D : Nat) : Int32 × Int32 := sfold (rci m D (rloft m 0 D)) ((rloft m 0 D).toNatClampNeg + 1) 0 (0, -1)
def rk_churches (m : zmem) (D : Nat) (w : Int32) : Int32 := if rini w 0 1 = 0 then -1000000002 else if w = 0 then (rchs m D).2 else (rchs m D).1
def rwr (m : zmem) (W : Nat) (d i : Int32) : zmem := mset (mset m 73 W d) 74 W i
def rk_write (m : zmem) (W : Nat) (d i : Int32) : Int32 × zmem := if sin (m 64 1) d = 0 then (-1000000001, m) else if sin (m 64 0) i = 0 then (-1000000001, m) else if m 57 30 = 20 then (-1000000004, m) else (m 57 30 + 1, mset (rwr m W d i) 57 30 (m 57 30 + 1))
def rk_tear (m : zmem) : Int32 × zmem := (m 57 30, mset m 57 30 0)
def rjud (D C : Nat) : Nat → Nat → zmem → Int32 × zmem
  | 0, _, mm => (-1, mm)
  | n + 1, k, mm => if rlf mm 100 (mm 73 k) = 0 then (Int32.ofNat k, mm) else if 0 ≤ rwho mm 100 D (mm 74 k) then (Int32.ofNat k, mm) else if 0 < wt mm 100 0 (mm 74 k) then (Int32.ofNat k, mm) else if rorder mm 100 C D 0 = mm 73 k then rjud D C n (k + 1) (rlaym mm 100 (mm 73 k) (mm 74 k)) else (Int32.ofNat k, mm)
def rk_judge (m : zmem) (D C W : Nat) : Int32 × zmem := rjud D C W 0 (rcopy m 0 100)
def rk_seed (m : zmem) (v : Int32) : Int32 × zmem := if 0 ≤ v then (m 58 73, mset m 58 73 v) else (-1000000002, m)
def rk_keep (m : zmem) (i : Int32) : Int32 × zmem := if rini i 0 1 = 0 then (-1000000001, m) else (1, mset (rcopy m 0 (200 + 100 * i.toNatClampNeg)) 59 i.toNatClampNeg 1)
def rk_goBack (m : zmem) (i : Int32) : Int32 × zmem := if rini i 0 1 = 0 then (-1000000001, m) else if m 59 i.toNatClampNeg = 0 then (-1000000003, m) else (1, rcopy m (200 + 100 * i.toNatClampNeg) 0)
theorem idx2 {i : Int32} (h : vp_in i 2) : 200 + 100 * i = Int32.ofNat (200 + 100 * i.toNatClampNeg) ∧ 200 + 100 * i.toNatClampNeg ≤ 300 := by
  have e := vp_nn h
  have l := vl h
  generalize i.toNatClampNeg = n at e l
  subst e
  have : n = 0 ∨ n = 1 := by omega
  rcases this with rfl | rfl <;> exact ⟨by decide, by decide⟩
set_option maxRecDepth 100000 in
set_option maxHeartbeats 4000000 in
theorem c7_till {m : zmem} {i h : Int32} (hvi : vp_in i 8) : Ei MX7_daysTill 1 [.ref 57, .int i, .int h] m (rdt m i h) (m) := by
  refine Ei.of (by decide) (Nat.le_of_ble_eq_true rfl) ?_
  show Z _ 0 [(0, .ref 57), (1, .int i), (2, .int h)] _ _ _ _
  refine z_aload_n 0 dX7_daysTill_0 rfl rfl ?_
  refine z_iload_n 2 dX7_daysTill_1 rfl rfl ?_
  refine z_iload_n 1 dX7_daysTill_2 rfl rfl ?_
  refine y_Vi [_, _] _ kX7_201 c7_rate rfl rfl dX7_daysTill_3 rfl rfl (Nat.le_of_ble_eq_true rfl) (Nat.le_of_ble_eq_true rfl) ⟨Nat.zero_le _, Nat.zero_le _⟩ ?_
  refine z_topi (fun v_1 e_1 => ?_)
  refine z_istore_n (lv' := [(3, .int v_1), (0, .ref 57), (1, .int i), (2, .int h)]) dX7_daysTill_6 rfl (Nat.le_of_ble_eq_true rfl) rfl ?_
  refine z_aload_n 1 dX7_daysTill_7 rfl rfl ?_
  refine y_getR fX7_7 dX7_daysTill_8 rfl rfl ?_
  refine z_iload_n 2 dX7_daysTill_11 rfl rfl ?_
  refine y_wld (X := 0) (o := 0) (d := i) dX7_daysTill_12 (wiD hvi) (wb (by decide) hvi (by decide)) ?_
  refine z_if_ne 20 dX7_daysTill_13 (by decide) (fun c_2 => ?_) (fun c_2 => ?_)
  · refine z_iload_n 0 dX7_daysTill_20 rfl rfl ?_
    refine z_if_ne 30 dX7_daysTill_21 (by decide) (fun c_3 => ?_) (fun c_3 => ?_)
    · refine z_aload_n 1 dX7_daysTill_30 rfl rfl ?_
      refine y_getR fX7_7 dX7_daysTill_31 rfl rfl ?_
      refine z_iload_n 2 dX7_daysTill_34 rfl rfl ?_
      refine y_wld (X := 0) (o := 0) (d := i) dX7_daysTill_35 (wiD hvi) (wb (by decide) hvi (by decide)) ?_
      refine z_iload_n 0 dX7_daysTill_36 rfl rfl ?_
      refine z_iadd dX7_daysTill_37 ?_
      refine z_iconst 1 dX7_daysTill_38 (by decide) ?_
      refine z_isub dX7_daysTill_39 ?_
      refine z_iload_n 0 dX7_daysTill_40 rfl rfl ?_
      refine z_idiv dX7_daysTill_41 (by assumption) ?_
      exact y_iret dX7_daysTill_42 rfl (by simp only [rdt, ← e_1]; simp [c_2, c_3]) rfl
    · refine z_sipush 1000 dX7_daysTill_24 (by decide) ?_
      refine z_goto 42 dX7_daysTill_27 (by decide) ?_
      exact y_iret dX7_daysTill_42 rfl (by simp only [rdt, ← e_1]; simp [c_2, c_3]) rfl
  · refine z_iconst 0 dX7_daysTill_16 (by decide) ?_
    refine z_goto 42 dX7_daysTill_17 (by decide) ?_
    exact y_iret dX7_daysTill_42 rfl (by simp only [rdt, ← e_1]; simp [c_2]) rfl
set_option maxRecDepth 100000 in
set_option maxHeartbeats 4000000 in
theorem c7_wsoft {m : zmem} {D Y C L W : Nat} (hI : RI m D Y C L W) {n h : Int32} : Ei MX7_whenSoft 2 [.ref 57, .int n, .int h] m (rwhen m D Y n h) (m) := by
  obtain ⟨hD, hD7, hY, hY8, hC, hC8, hL, hL4, hW, hW20⟩ := id hI
  refine Ei.of (by decide) (Nat.le_of_ble_eq_true rfl) ?_
  show Z _ 0 [(0, .ref 57), (1, .int n), (2, .int h)] _ _ _ _
  refine z_iconst 0 dX7_whenSoft_0 (by decide) ?_
  refine z_istore_n (lv' := [(3, .int 0), (0, .ref 57), (1, .int n), (2, .int h)]) dX7_whenSoft_1 rfl (Nat.le_of_ble_eq_true rfl) rfl ?_
  have loop2 : ∀ (q : Nat) (k : Nat), k + q = 1000 → rwhen m D Y n h = sfind (fun k => decide (¬ rsbn m D Y h k < n)) q k → Z (zMB (Qi (rwhen m D Y n h) (m)) 2 MX7_whenSoft) 2 [(0, .ref 57), (1, .int n), (2, .int h), (3, .int (Int32.ofNat k))] [] (hp m) 0 0 := by
    intro q
    induction q with
    | zero =>
      intro k hk hr
      refine z_iload_n 3 dX7_whenSoft_2 rfl rfl ?_
      refine z_sipush 999 dX7_whenSoft_3 (by decide) ?_
      refine z_icmp_gt 80 dX7_whenSoft_6 (by decide) (fun c_1 => ?_) (fun c_1 => ?_)
      · refine z_iconst (-1) dX7_whenSoft_80 (by decide) ?_
        exact y_iret dX7_whenSoft_81 rfl (by first | exact hr.symm | (rw [hr]; simp [sfind, rsbn, hr2, sfold, c_1])) rfl
      · exact (dzg (b := 999) (N := 999) rfl (by omega) (by omega) c_1).elim
    | succ q ih2 =>
      intro k hk hr
      refine z_iload_n 3 dX7_whenSoft_2 rfl rfl ?_
      refine z_sipush 999 dX7_whenSoft_3 (by decide) ?_
      refine z_icmp_gt 80 dX7_whenSoft_6 (by decide) (fun c_2 => ?_) (fun c_2 => ?_)
      · exact (dsg (b := 999) (N := 999) rfl (by omega) (by omega) c_2).elim
      · refine z_iconst 0 dX7_whenSoft_9 (by decide) ?_
        refine z_istore (lv' := [(4, .int 0), (0, .ref 57), (1, .int n), (2, .int h), (3, .int (Int32.ofNat k))]) dX7_whenSoft_10 (Nat.le_of_ble_eq_true rfl) rfl ?_
        refine z_iconst 0 dX7_whenSoft_12 (by decide) ?_
        refine z_istore (lv' := [(5, .int 0), (4, .int 0), (0, .ref 57), (1, .int n), (2, .int h), (3, .int (Int32.ofNat k))]) dX7_whenSoft_13 (Nat.le_of_ble_eq_true rfl) rfl ?_
        have loop15 : ∀ (q2 : Nat) (j : Nat) (s : Int32), j + q2 = Y → sfold (rsb m D h k) Y 0 0 = sfold (rsb m D h k) q2 j s → Z (zMB (Qi (rwhen m D Y n h) (m)) 2 MX7_whenSoft) 15 [(0, .ref 57), (1, .int n), (2, .int h), (3, .int (Int32.ofNat k)), (4, .int s), (5, .int (Int32.ofNat j))] [] (hp m) 0 0 := by
          intro q2
          induction q2 with
          | zero =>
            intro j s hj hr2
            refine z_iload 5 dX7_whenSoft_15 rfl ?_
            refine z_aload_n 0 dX7_whenSoft_17 rfl rfl ?_
            refine y_getR fX7_36 dX7_whenSoft_18 rfl rfl ?_
            refine z_iconst 0 dX7_whenSoft_21 (by decide) ?_
            refine y_ald (N := 0) dX7_whenSoft_22 rfl rfl (by decide) ?_
            refine z_icmp_ge 66 dX7_whenSoft_23 (by decide) (fun c_3 => ?_) (fun c_3 => ?_)
            · refine z_iload 4 dX7_whenSoft_66 rfl ?_
              refine z_iload_n 1 dX7_whenSoft_68 rfl rfl ?_
              refine z_icmp_lt 74 dX7_whenSoft_69 (by decide) (fun c_4 => ?_) (fun c_4 => ?_)
              · obtain ⟨v_5, e_5⟩ : ∃ y : Int32, y = (Int32.ofNat k) + 1 := ⟨_, rfl⟩
                refine z_iinc (lv' := [(3, .int v_5), (0, .ref 57), (1, .int n), (2, .int h), (4, .int s), (5, .int (Int32.ofNat j))]) 3 v_5 dX7_whenSoft_74 rfl (by rw [e_5]; rfl) (Nat.le_of_ble_eq_true rfl) rfl ?_
                refine z_goto 2 dX7_whenSoft_77 (by decide) ?_
                obtain rfl : v_5 = Int32.ofNat (k + 1) := e_5.trans (nat_succ k)
                refine z_sub [1,2,3,0] rfl ?_
                exact ih2 (k + 1)  (by omega) (hr.trans (by simp [sfind, rsbn, hr2, sfold, c_2, c_3, c_4]))
              · refine z_iload_n 3 dX7_whenSoft_72 rfl rfl ?_
                exact y_iret dX7_whenSoft_73 rfl (by first | exact hr.symm | (rw [hr]; simp [sfind, rsbn, hr2, sfold, c_2, c_3, c_4])) rfl
            · exact (dz rfl hY (by omega) (by omega) c_3).elim
          | succ q2 ih15 =>
            intro j s hj hr2
            refine z_iload 5 dX7_whenSoft_15 rfl ?_
            refine z_aload_n 0 dX7_whenSoft_17 rfl rfl ?_
            refine y_getR fX7_36 dX7_whenSoft_18 rfl rfl ?_
            refine z_iconst 0 dX7_whenSoft_21 (by decide) ?_
            refine y_ald (N := 0) dX7_whenSoft_22 rfl rfl (by decide) ?_
            refine z_icmp_ge 66 dX7_whenSoft_23 (by decide) (fun c_6 => ?_) (fun c_6 => ?_)
            · exact (ds rfl hY (by omega) (by omega) c_6).elim
            · refine z_iload 4 dX7_whenSoft_26 rfl ?_
              refine z_aload_n 0 dX7_whenSoft_28 rfl rfl ?_
              refine z_iconst 0 dX7_whenSoft_29 (by decide) ?_
              refine z_iload 5 dX7_whenSoft_30 rfl ?_
              refine y_Vi [_, _] _ kX7_187 (c7_who (X := 0) hI (by decide)) rfl rfl dX7_whenSoft_32 rfl rfl (Nat.le_of_ble_eq_true rfl) (Nat.le_of_ble_eq_true rfl) ⟨Nat.zero_le _, Nat.zero_le _⟩ ?_
              refine z_if_ge 53 dX7_whenSoft_35 (by decide) (fun c_7 => ?_) (fun c_7 => ?_)
              · refine z_iconst 0 dX7_whenSoft_53 (by decide) ?_
                refine y_Si [_] _ kX7_157 (c7_one (by first | exact rlf01 _ _ _ | exact roff01 _ _ _ _ _ | decide)) dX7_whenSoft_54 rfl rfl (Nat.le_of_ble_eq_true rfl) (Nat.le_of_ble_eq_true rfl) ⟨Nat.zero_le _, Nat.zero_le _⟩ ?_
                refine z_iadd dX7_whenSoft_57 ?_
                refine z_topi (fun v_8 e_8 => ?_)
                refine z_istore (lv' := [(4, .int v_8), (0, .ref 57), (1, .int n), (2, .int h), (3, .int (Int32.ofNat k)), (5, .int (Int32.ofNat j))]) dX7_whenSoft_58 (Nat.le_of_ble_eq_true rfl) rfl ?_
                obtain ⟨v_9, e_9⟩ : ∃ y : Int32, y = (Int32.ofNat j) + 1 := ⟨_, rfl⟩
                refine z_iinc (lv' := [(5, .int v_9), (4, .int v_8), (0, .ref 57), (1, .int n), (2, .int h), (3, .int (Int32.ofNat k))]) 5 v_9 dX7_whenSoft_60 rfl (by rw [e_9]; rfl) (Nat.le_of_ble_eq_true rfl) rfl ?_
                refine z_goto 15 dX7_whenSoft_63 (by decide) ?_
                obtain rfl : v_9 = Int32.ofNat (j + 1) := e_9.trans (nat_succ j)
                refine z_sub [2,3,4,5,1,0] rfl ?_
                exact ih15 (j + 1) _ (by omega) (hr2.trans (congrArg (sfold _ q2 (j + 1)) (by simp [rsb, c_6, c_7, e_8])))
              · refine z_aload_n 0 dX7_whenSoft_38 rfl rfl ?_
                refine z_iload 5 dX7_whenSoft_39 rfl ?_
                refine z_iload_n 2 dX7_whenSoft_41 rfl rfl ?_
                refine y_Vi [_, _] _ kX7_271 (c7_till (vk (by omega))) rfl rfl dX7_whenSoft_42 rfl rfl (Nat.le_of_ble_eq_true rfl) (Nat.le_of_ble_eq_true rfl) ⟨Nat.zero_le _, Nat.zero_le _⟩ ?_
                refine z_iload_n 3 dX7_whenSoft_45 rfl rfl ?_
                refine z_icmp_gt 53 dX7_whenSoft_46 (by decide) (fun c_10 => ?_) (fun c_10 => ?_)
                · refine z_iconst 0 dX7_whenSoft_53 (by decide) ?_
                  refine y_Si [_] _ kX7_157 (c7_one (by first | exact rlf01 _ _ _ | exact roff01 _ _ _ _ _ | decide)) dX7_whenSoft_54 rfl rfl (Nat.le_of_ble_eq_true rfl) (Nat.le_of_ble_eq_true rfl) ⟨Nat.zero_le _, Nat.zero_le _⟩ ?_
                  refine z_iadd dX7_whenSoft_57 ?_
                  refine z_topi (fun v_11 e_11 => ?_)
                  refine z_istore (lv' := [(4, .int v_11), (0, .ref 57), (1, .int n), (2, .int h), (3, .int (Int32.ofNat k)), (5, .int (Int32.ofNat j))]) dX7_whenSoft_58 (Nat.le_of_ble_eq_true rfl) rfl ?_
                  obtain ⟨v_12, e_12⟩ : ∃ y : Int32, y = (Int32.ofNat j) + 1 := ⟨_, rfl⟩
                  refine z_iinc (lv' := [(5, .int v_12), (4, .int v_11), (0, .ref 57), (1, .int n), (2, .int h), (3, .int (Int32.ofNat k))]) 5 v_12 dX7_whenSoft_60 rfl (by rw [e_12]; rfl) (Nat.le_of_ble_eq_true rfl) rfl ?_
                  refine z_goto 15 dX7_whenSoft_63 (by decide) ?_
                  obtain rfl : v_12 = Int32.ofNat (j + 1) := e_12.trans (nat_succ j)
                  refine z_sub [2,3,4,5,1,0] rfl ?_
                  exact ih15 (j + 1) _ (by omega) (hr2.trans (congrArg (sfold _ q2 (j + 1)) (by simp [rsb, c_6, c_7, c_10, e_11])))
                · refine z_iconst 1 dX7_whenSoft_49 (by decide) ?_
                  refine z_goto 54 dX7_whenSoft_50 (by decide) ?_
                  refine y_Si [_] _ kX7_157 (c7_one (by first | exact rlf01 _ _ _ | exact roff01 _ _ _ _ _ | decide)) dX7_whenSoft_54 rfl rfl (Nat.le_of_ble_eq_true rfl) (Nat.le_of_ble_eq_true rfl) ⟨Nat.zero_le _, Nat.zero_le _⟩ ?_
                  refine z_iadd dX7_whenSoft_57 ?_
                  refine z_topi (fun v_13 e_13 => ?_)
                  refine z_istore (lv' := [(4, .int v_13), (0, .ref 57), (1, .int n), (2, .int h), (3, .int (Int32.ofNat k)), (5, .int (Int32.ofNat j))]) dX7_whenSoft_58 (Nat.le_of_ble_eq_true rfl) rfl ?_
                  obtain ⟨v_14, e_14⟩ : ∃ y : Int32, y = (Int32.ofNat j) + 1 := ⟨_, rfl⟩
                  refine z_iinc (lv' := [(5, .int v_14), (4, .int v_13), (0, .ref 57), (1, .int n), (2, .int h), (3, .int (Int32.ofNat k))]) 5 v_14 dX7_whenSoft_60 rfl (by rw [e_14]; rfl) (Nat.le_of_ble_eq_true rfl) rfl ?_
                  refine z_goto 15 dX7_whenSoft_63 (by decide) ?_
                  obtain rfl : v_14 = Int32.ofNat (j + 1) := e_14.trans (nat_succ j)
                  refine z_sub [2,3,4,5,1,0] rfl ?_
                  exact ih15 (j + 1) _ (by omega) (hr2.trans (congrArg (sfold _ q2 (j + 1)) (by simp [rsb, c_6, c_7, c_10, e_13])))
        refine z_sub [2,3,4,5,1,0] rfl ?_
        exact loop15 (Y) 0 _ (by omega) rfl
  refine z_sub [1,2,3,0] rfl ?_
  exact loop2 (1000) 0  (by omega) rfl
set_option maxRecDepth 100000 in
set_option maxHeartbeats 4000000 in
theorem c7_when {m : zmem} {D Y C L W : Nat} (hI : RI m D Y C L W) {n h : Int32} : Ei MX7_when 3 [.ref 57, .int n, .int h] m (rk_when m D Y n h) (m) := by
  obtain ⟨hD, hD7, hY, hY8, hC, hC8, hL, hL4, hW, hW20⟩ := id hI
  refine Ei.of (by decide) (Nat.le_of_ble_eq_true rfl) ?_
  show Z _ 0 [(0, .ref 57), (1, .int n), (2, .int h)] _ _ _ _
  refine z_iload_n 1 dX7_when_0 rfl rfl ?_
  refine z_i2l dX7_when_1 ?_
  refine z_lconst 1 dX7_when_2 (by decide) ?_
  refine z_ldc2 8 dX7_when_3 nX7_75 ?_
  refine y_Si [_, _, _] _ kX7_77 (c7_ini (lo := 1) (hi := 8)) dX7_when_6 rfl rfl (Nat.le_of_ble_eq_true rfl) (Nat.le_of_ble_eq_true rfl) ⟨Nat.zero_le _, Nat.zero_le _⟩ ?_
  refine z_if_eq 33 dX7_when_9 (by decide) (fun c_1 => ?_) (fun c_1 => ?_)
  · refine z_ldc (-1000000002) dX7_when_33 nX7_81 ?_
    exact y_iret dX7_when_35 rfl (by simp [rk_when, c_1]) rfl
  · refine z_iload_n 2 dX7_when_12 rfl rfl ?_
    refine z_i2l dX7_when_13 ?_
    refine z_lconst 1 dX7_when_14 (by decide) ?_
    refine z_ldc2 9 dX7_when_15 nX7_206 ?_
    refine y_Si [_, _, _] _ kX7_77 (c7_ini (lo := 1) (hi := 9)) dX7_when_18 rfl rfl (Nat.le_of_ble_eq_true rfl) (Nat.le_of_ble_eq_true rfl) ⟨Nat.zero_le _, Nat.zero_le _⟩ ?_
    refine z_if_eq 33 dX7_when_21 (by decide) (fun c_2 => ?_) (fun c_2 => ?_)
    · refine z_ldc (-1000000002) dX7_when_33 nX7_81 ?_
      exact y_iret dX7_when_35 rfl (by simp [rk_when, c_1, c_2]) rfl
    · refine z_aload_n 0 dX7_when_24 rfl rfl ?_
      refine z_iload_n 1 dX7_when_25 rfl rfl ?_
      refine z_iload_n 2 dX7_when_26 rfl rfl ?_
      refine y_Vi [_, _] _ kX7_274 (c7_wsoft hI) rfl rfl dX7_when_27 rfl rfl (Nat.le_of_ble_eq_true rfl) (Nat.le_of_ble_eq_true rfl) ⟨Nat.zero_le _, Nat.zero_le _⟩ ?_
      refine z_goto 35 dX7_when_30 (by decide) ?_
      exact y_iret dX7_when_35 rfl (by simp [rk_when, c_1, c_2]) rfl
set_option maxRecDepth 100000 in
set_option maxHeartbeats 4000000 in
theorem c7_span {m : zmem} {D Y C L W : Nat} (hI : RI m D Y C L W) {n a b w : Int32} : Ei MX7_span 3 [.ref 57, .int n, .int a, .int b, .int w] m (rk_span m D Y n a b w) (m) := by
  obtain ⟨hD, hD7, hY, hY8, hC, hC8, hL, hL4, hW, hW20⟩ := id hI
  refine Ei.of (by decide) (Nat.le_of_ble_eq_true rfl) ?_
  show Z _ 0 [(0, .ref 57), (1, .int n), (2, .int a), (3, .int b), (4, .int w)] _ _ _ _
  refine z_iload_n 1 dX7_span_0 rfl rfl ?_
  refine z_i2l dX7_span_1 ?_
  refine z_lconst 1 dX7_span_2 (by decide) ?_
  refine z_ldc2 8 dX7_span_3 nX7_75 ?_
  refine y_Si [_, _, _] _ kX7_77 (c7_ini (lo := 1) (hi := 8)) dX7_span_6 rfl rfl (Nat.le_of_ble_eq_true rfl) (Nat.le_of_ble_eq_true rfl) ⟨Nat.zero_le _, Nat.zero_le _⟩ ?_
  refine z_if_eq 48 dX7_span_9 (by decide) (fun c_1 => ?_) (fun c_1 => ?_)
  · refine z_ldc (-1000000002) dX7_span_48 nX7_81 ?_
    exact y_iret dX7_span_50 rfl (by first | (simp [rk_span, c_1]; done) | (simp only [rk_span, if_neg c_1, if_neg c_2, if_neg c_3, if_neg c_4]; simp [c_1])) rfl
  · refine z_iload_n 2 dX7_span_12 rfl rfl ?_
    refine z_i2l dX7_span_13 ?_
    refine z_lconst 1 dX7_span_14 (by decide) ?_
    refine z_ldc2 9 dX7_span_15 nX7_206 ?_
    refine y_Si [_, _, _] _ kX7_77 (c7_ini (lo := 1) (hi := 9)) dX7_span_18 rfl rfl (Nat.le_of_ble_eq_true rfl) (Nat.le_of_ble_eq_true rfl) ⟨Nat.zero_le _, Nat.zero_le _⟩ ?_
    refine z_if_eq 48 dX7_span_21 (by decide) (fun c_2 => ?_) (fun c_2 => ?_)
    · refine z_ldc (-1000000002) dX7_span_48 nX7_81 ?_
      exact y_iret dX7_span_50 rfl (by first | (simp [rk_span, c_1, c_2]; done) | (simp only [rk_span, if_neg c_1, if_neg c_2, if_neg c_3, if_neg c_4]; simp [c_1, c_2])) rfl
    · refine z_iload_n 3 dX7_span_24 rfl rfl ?_
      refine z_i2l dX7_span_25 ?_
      refine z_iload_n 2 dX7_span_26 rfl rfl ?_
      refine z_i2l dX7_span_27 ?_
      refine z_ldc2 9 dX7_span_28 nX7_206 ?_
      refine y_Si [_, _, _] _ kX7_77 (c7_ini (lo := a) (hi := 9) (hl := rfl)) dX7_span_31 rfl rfl (Nat.le_of_ble_eq_true rfl) (Nat.le_of_ble_eq_true rfl) ⟨Nat.zero_le _, Nat.zero_le _⟩ ?_
      refine z_if_eq 48 dX7_span_34 (by decide) (fun c_3 => ?_) (fun c_3 => ?_)
      · refine z_ldc (-1000000002) dX7_span_48 nX7_81 ?_
        exact y_iret dX7_span_50 rfl (by first | (simp [rk_span, c_1, c_2, c_3]; done) | (simp only [rk_span, if_neg c_1, if_neg c_2, if_neg c_3, if_neg c_4]; simp [c_1, c_2, c_3])) rfl
      · refine z_iload 4 dX7_span_37 rfl ?_
        refine z_i2l dX7_span_39 ?_
        refine z_lconst 0 dX7_span_40 (by decide) ?_
        refine z_lconst 1 dX7_span_41 (by decide) ?_
        refine y_Si [_, _, _] _ kX7_77 (c7_ini (lo := 0) (hi := 1)) dX7_span_42 rfl rfl (Nat.le_of_ble_eq_true rfl) (Nat.le_of_ble_eq_true rfl) ⟨Nat.zero_le _, Nat.zero_le _⟩ ?_
        refine z_if_ne 51 dX7_span_45 (by decide) (fun c_4 => ?_) (fun c_4 => ?_)
        · refine z_aload_n 0 dX7_span_51 rfl rfl ?_
          refine z_iload_n 1 dX7_span_52 rfl rfl ?_
          refine z_iload 4 dX7_span_53 rfl ?_
          refine z_if_ne 62 dX7_span_55 (by decide) (fun c_5 => ?_) (fun c_5 => ?_)
          · refine z_iload_n 2 dX7_span_62 rfl rfl ?_
            refine y_Vi [_, _] _ kX7_274 (c7_wsoft hI) rfl rfl dX7_span_63 rfl rfl (Nat.le_of_ble_eq_true rfl) (Nat.le_of_ble_eq_true rfl) ⟨Nat.zero_le _, Nat.zero_le _⟩ ?_
            exact y_iret dX7_span_66 rfl (by first | (simp [rk_span, c_1, c_2, c_3, c_4, c_5]; done) | (simp only [rk_span, if_neg c_1, if_neg c_2, if_neg c_3, if_neg c_4]; simp [c_1, c_2, c_3, c_4, c_5])) rfl
          · refine z_iload_n 3 dX7_span_58 rfl rfl ?_
            refine z_goto 63 dX7_span_59 (by decide) ?_
            refine y_Vi [_, _] _ kX7_274 (c7_wsoft hI) rfl rfl dX7_span_63 rfl rfl (Nat.le_of_ble_eq_true rfl) (Nat.le_of_ble_eq_true rfl) ⟨Nat.zero_le _, Nat.zero_le _⟩ ?_
            exact y_iret dX7_span_66 rfl (by first | (simp [rk_span, c_1, c_2, c_3, c_4, c_5]; done) | (simp only [rk_span, if_neg c_1, if_neg c_2, if_neg c_3, if_neg c_4]; simp [c_1, c_2, c_3, c_4, c_5])) rfl
        · refine z_ldc (-1000000002) dX7_span_48 nX7_81 ?_
          exact y_iret dX7_span_50 rfl (by first | (simp [rk_span, c_1, c_2, c_3, c_4]; done) | (simp only [rk_span, if_neg c_1, if_neg c_2, if_neg c_3, if_neg c_4]; simp [c_1, c_2, c_3, c_4])) rfl
set_option maxRecDepth 100000 in
set_option maxHeartbeats 4000000 in
theorem c7_bribe {m : zmem} {D Y C L W : Nat} (hI : RI m D Y C L W) {d p : Int32} : Ei MX7_bribe 4 [.ref 57, .int d, .int p] m ((rk_bribe m C D d p).1) ((rk_bribe m C D d p).2) := by
  obtain ⟨hD, hD7, hY, hY8, hC, hC8, hL, hL4, hW, hW20⟩ := id hI
  refine Ei.of (by decide) (Nat.le_of_ble_eq_true rfl) ?_
  show Z _ 0 [(0, .ref 57), (1, .int d), (2, .int p)] _ _ _ _
  refine z_aload_n 0 dX7_bribe_0 rfl rfl ?_
  refine z_iload_n 1 dX7_bribe_1 rfl rfl ?_
  refine y_Vi [_] _ kX7_190 (c7_isDead hI) rfl rfl dX7_bribe_2 rfl rfl (Nat.le_of_ble_eq_true rfl) (Nat.le_of_ble_eq_true rfl) ⟨Nat.zero_le _, Nat.zero_le _⟩ ?_
  refine z_if_ne 11 dX7_bribe_5 (by decide) (fun c_1 => ?_) (fun c_1 => ?_)
  · refine z_iload_n 2 dX7_bribe_11 rfl rfl ?_
    refine z_i2l dX7_bribe_12 ?_
    refine z_lconst 0 dX7_bribe_13 (by decide) ?_
    refine z_ldc2 6 dX7_bribe_14 nX7_277 ?_
    refine y_Si [_, _, _] _ kX7_77 (c7_ini (lo := 0) (hi := 6)) dX7_bribe_17 rfl rfl (Nat.le_of_ble_eq_true rfl) (Nat.le_of_ble_eq_true rfl) ⟨Nat.zero_le _, Nat.zero_le _⟩ ?_
    refine z_if_ne 26 dX7_bribe_20 (by decide) (fun c_2 => ?_) (fun c_2 => ?_)
    · refine z_aload_n 0 dX7_bribe_26 rfl rfl ?_
      refine z_iconst 0 dX7_bribe_27 (by decide) ?_
      refine z_iload_n 1 dX7_bribe_28 rfl rfl ?_
      refine y_Vi [_, _] _ kX7_154 (c7_lf (X := 0) (by decide) (sin_vp hD (by omega) c_1)) rfl rfl dX7_bribe_29 rfl rfl (Nat.le_of_ble_eq_true rfl) (Nat.le_of_ble_eq_true rfl) ⟨Nat.zero_le _, Nat.zero_le _⟩ ?_
      refine z_if_ne 38 dX7_bribe_32 (by decide) (fun c_3 => ?_) (fun c_3 => ?_)
      · refine z_aload_n 0 dX7_bribe_38 rfl rfl ?_
        refine z_iconst 0 dX7_bribe_39 (by decide) ?_
        refine z_bipush 100 dX7_bribe_40 (by decide) ?_
        refine y_V0 [_, _] _ kX7_257 (c7_copy (X := 0) (Y := 100) (by decide) (by decide)) rfl rfl dX7_bribe_42 rfl rfl (Nat.le_of_ble_eq_true rfl) (Nat.le_of_ble_eq_true rfl) ⟨Nat.zero_le _, Nat.zero_le _⟩ ?_
        refine z_iconst 0 dX7_bribe_45 (by decide) ?_
        refine z_istore_n (lv' := [(3, .int 0), (0, .ref 57), (1, .int d), (2, .int p)]) dX7_bribe_46 rfl (Nat.le_of_ble_eq_true rfl) rfl ?_
        have loop47 : ∀ (q : Nat) (k : Nat) (mm : zmem), k + q = 1000 → rbr C D d p 1000 0 (rcopy m 0 100) = rbr C D d p q k mm → W58 m mm → Z (zMB (Qi ((rk_bribe m C D d p).1) ((rk_bribe m C D d p).2)) 4 MX7_bribe) 47 [(0, .ref 57), (1, .int d), (2, .int p), (3, .int (Int32.ofNat k))] [] (hp mm) 0 0 := by
          intro q
          induction q with
          | zero =>
            intro k mm hk hr hw
            refine z_iload_n 3 dX7_bribe_47 rfl rfl ?_
            refine z_sipush 999 dX7_bribe_48 (by decide) ?_
            refine z_icmp_gt 116 dX7_bribe_51 (by decide) (fun c_4 => ?_) (fun c_4 => ?_)
            · refine z_iconst (-1) dX7_bribe_116 (by decide) ?_
              exact y_iret dX7_bribe_117 rfl (by first | (simp [rk_bribe, c_1, c_2, c_3, c_4]; done) | (rw [rk_bribe, if_neg c_1, if_neg c_2, if_neg c_3, hr]; simp [rbr, rbrs, rgv, c_1, c_2, c_3, c_4])) (by first | (simp [rk_bribe, c_1, c_2, c_3, c_4]; done) | (rw [rk_bribe, if_neg c_1, if_neg c_2, if_neg c_3, hr]; simp [rbr, rbrs, rgv, c_1, c_2, c_3, c_4]))
            · exact (dzg (b := 999) (N := 999) rfl (by omega) (by omega) c_4).elim
          | succ q ih47 =>
            intro k mm hk hr hw
            refine z_iload_n 3 dX7_bribe_47 rfl rfl ?_
            refine z_sipush 999 dX7_bribe_48 (by decide) ?_
            refine z_icmp_gt 116 dX7_bribe_51 (by decide) (fun c_5 => ?_) (fun c_5 => ?_)
            · exact (dsg (b := 999) (N := 999) rfl (by omega) (by omega) c_5).elim
            · refine z_aload_n 0 dX7_bribe_54 rfl rfl ?_
              refine y_getR fX7_7 dX7_bribe_55 rfl rfl ?_
              refine z_bipush 124 dX7_bribe_58 (by decide) ?_
              refine z_iload_n 1 dX7_bribe_60 rfl rfl ?_
              refine z_iadd dX7_bribe_61 ?_
              refine z_aload_n 0 dX7_bribe_62 rfl rfl ?_
              refine y_getR fX7_7 dX7_bribe_63 rfl rfl ?_
              refine z_bipush 24 dX7_bribe_66 (by decide) ?_
              refine z_iload_n 1 dX7_bribe_68 rfl rfl ?_
              refine z_iadd dX7_bribe_69 ?_
              refine y_wld (X := 0) (o := 24) (d := d) dX7_bribe_70 (wiB (sin_vp hD (by omega) c_1)) (wb (by decide) (sin_vp hD (by omega) c_1) (by decide)) ?_
              refine z_iload_n 3 dX7_bribe_71 rfl rfl ?_
              refine z_iadd dX7_bribe_72 ?_
              refine z_sipush 9999 dX7_bribe_73 (by decide) ?_
              refine z_icmp_le 85 dX7_bribe_76 (by decide) (fun c_6 => ?_) (fun c_6 => ?_)
              · refine z_aload_n 0 dX7_bribe_85 rfl rfl ?_
                refine y_getR fX7_7 dX7_bribe_86 rfl rfl ?_
                refine z_bipush 24 dX7_bribe_89 (by decide) ?_
                refine z_iload_n 1 dX7_bribe_91 rfl rfl ?_
                refine z_iadd dX7_bribe_92 ?_
                refine y_wld (X := 0) (o := 24) (d := d) dX7_bribe_93 (wiB (sin_vp hD (by omega) c_1)) (wb (by decide) (sin_vp hD (by omega) c_1) (by decide)) ?_
                refine z_iload_n 3 dX7_bribe_94 rfl rfl ?_
                refine z_iadd dX7_bribe_95 ?_
                refine y_wst (X := 100) (o := 24) (d := d) dX7_bribe_96 (wiB (sin_vp hD (by omega) c_1)) (wb (by decide) (sin_vp hD (by omega) c_1) (by decide)) ?_
                refine z_aload_n 0 dX7_bribe_97 rfl rfl ?_
                refine z_bipush 100 dX7_bribe_98 (by decide) ?_
                refine z_iload_n 1 dX7_bribe_100 rfl rfl ?_
                refine y_Vi [_, _] _ kX7_172 (c7_place (X := 100) ((hI.w hw).w W58.wp) (by decide) (sin_vp hD (by omega) c_1)) rfl rfl dX7_bribe_101 rfl rfl (Nat.le_of_ble_eq_true rfl) (Nat.le_of_ble_eq_true rfl) ⟨Nat.zero_le _, Nat.zero_le _⟩ ?_
                refine z_iload_n 2 dX7_bribe_104 rfl rfl ?_
                refine z_icmp_gt 110 dX7_bribe_105 (by decide) (fun c_7 => ?_) (fun c_7 => ?_)
                · obtain ⟨v_8, e_8⟩ : ∃ y : Int32, y = (Int32.ofNat k) + 1 := ⟨_, rfl⟩
                  refine z_iinc (lv' := [(3, .int v_8), (0, .ref 57), (1, .int d), (2, .int p)]) 3 v_8 dX7_bribe_110 rfl (by rw [e_8]; rfl) (Nat.le_of_ble_eq_true rfl) rfl ?_
                  refine z_goto 47 dX7_bribe_113 (by decide) ?_
                  obtain rfl : v_8 = Int32.ofNat (k + 1) := e_8.trans (nat_succ k)
                  refine z_sub [1,2,3,0] rfl ?_
                  exact ih47 (k + 1) _ (by omega) (hr.trans (by simp [rbr, rbrs, rgv, c_5, c_6, c_7])) (hw.tr W58.wp)
                · refine z_iload_n 3 dX7_bribe_108 rfl rfl ?_
                  exact y_iret dX7_bribe_109 rfl (by first | (simp [rk_bribe, c_1, c_2, c_3, c_5, c_6, c_7]; done) | (rw [rk_bribe, if_neg c_1, if_neg c_2, if_neg c_3, hr]; simp [rbr, rbrs, rgv, c_1, c_2, c_3, c_5, c_6, c_7])) (by first | (simp [rk_bribe, c_1, c_2, c_3, c_5, c_6, c_7]; done) | (rw [rk_bribe, if_neg c_1, if_neg c_2, if_neg c_3, hr]; simp [rbr, rbrs, rgv, c_1, c_2, c_3, c_5, c_6, c_7]))
              · refine z_sipush 9999 dX7_bribe_79 (by decide) ?_
                refine z_goto 96 dX7_bribe_82 (by decide) ?_
                refine y_wst (X := 100) (o := 24) (d := d) dX7_bribe_96 (wiB (sin_vp hD (by omega) c_1)) (wb (by decide) (sin_vp hD (by omega) c_1) (by decide)) ?_
                refine z_aload_n 0 dX7_bribe_97 rfl rfl ?_
                refine z_bipush 100 dX7_bribe_98 (by decide) ?_
                refine z_iload_n 1 dX7_bribe_100 rfl rfl ?_
                refine y_Vi [_, _] _ kX7_172 (c7_place (X := 100) ((hI.w hw).w W58.wp) (by decide) (sin_vp hD (by omega) c_1)) rfl rfl dX7_bribe_101 rfl rfl (Nat.le_of_ble_eq_true rfl) (Nat.le_of_ble_eq_true rfl) ⟨Nat.zero_le _, Nat.zero_le _⟩ ?_
                refine z_iload_n 2 dX7_bribe_104 rfl rfl ?_
                refine z_icmp_gt 110 dX7_bribe_105 (by decide) (fun c_9 => ?_) (fun c_9 => ?_)
                · obtain ⟨v_10, e_10⟩ : ∃ y : Int32, y = (Int32.ofNat k) + 1 := ⟨_, rfl⟩
                  refine z_iinc (lv' := [(3, .int v_10), (0, .ref 57), (1, .int d), (2, .int p)]) 3 v_10 dX7_bribe_110 rfl (by rw [e_10]; rfl) (Nat.le_of_ble_eq_true rfl) rfl ?_
                  refine z_goto 47 dX7_bribe_113 (by decide) ?_
                  obtain rfl : v_10 = Int32.ofNat (k + 1) := e_10.trans (nat_succ k)
                  refine z_sub [1,2,3,0] rfl ?_
                  exact ih47 (k + 1) _ (by omega) (hr.trans (by simp [rbr, rbrs, rgv, c_5, c_6, c_9])) (hw.tr W58.wp)
                · refine z_iload_n 3 dX7_bribe_108 rfl rfl ?_
                  exact y_iret dX7_bribe_109 rfl (by first | (simp [rk_bribe, c_1, c_2, c_3, c_5, c_6, c_9]; done) | (rw [rk_bribe, if_neg c_1, if_neg c_2, if_neg c_3, hr]; simp [rbr, rbrs, rgv, c_1, c_2, c_3, c_5, c_6, c_9])) (by first | (simp [rk_bribe, c_1, c_2, c_3, c_5, c_6, c_9]; done) | (rw [rk_bribe, if_neg c_1, if_neg c_2, if_neg c_3, hr]; simp [rbr, rbrs, rgv, c_1, c_2, c_3, c_5, c_6, c_9]))
        refine z_sub [1,2,3,0] rfl ?_
        exact loop47 (1000) 0 _ (by omega) rfl (W58.copy m 0 100)
      · refine z_ldc (-1000000003) dX7_bribe_35 nX7_200 ?_
        exact y_iret dX7_bribe_37 rfl (by first | (simp [rk_bribe, c_1, c_2, c_3]; done) | (rw [rk_bribe, if_neg c_1, if_neg c_2, if_neg c_3, hr]; simp [rbr, rbrs, rgv, c_1, c_2, c_3])) (by first | (simp [rk_bribe, c_1, c_2, c_3]; done) | (rw [rk_bribe, if_neg c_1, if_neg c_2, if_neg c_3, hr]; simp [rbr, rbrs, rgv, c_1, c_2, c_3]))
    · refine z_ldc (-1000000002) dX7_bribe_23 nX7_81 ?_
      exact y_iret dX7_bribe_25 rfl (by first | (simp [rk_bribe, c_1, c_2]; done) | (rw [rk_bribe, if_neg c_1, if_neg c_2, if_neg c_3, hr]; simp [rbr, rbrs, rgv, c_1, c_2])) (by first | (simp [rk_bribe, c_1, c_2]; done) | (rw [rk_bribe, if_neg c_1, if_neg c_2, if_neg c_3, hr]; simp [rbr, rbrs, rgv, c_1, c_2]))
  · refine z_ldc (-1000000001) dX7_bribe_8 nX7_186 ?_
    exact y_iret dX7_bribe_10 rfl (by first | (simp [rk_bribe, c_1]; done) | (rw [rk_bribe, if_neg c_1, if_neg c_2, if_neg c_3, hr]; simp [rbr, rbrs, rgv, c_1])) (by first | (simp [rk_bribe, c_1]; done) | (rw [rk_bribe, if_neg c_1, if_neg c_2, if_neg c_3, hr]; simp [rbr, rbrs, rgv, c_1]))
set_option maxRecDepth 100000 in
set_option maxHeartbeats 4000000 in
theorem c7_label {m : zmem} {D Y C L W : Nat} (hI : RI m D Y C L W) {c n : Int32} : Ei MX7_label 2 [.ref 57, .int c, .int n] m ((rk_label m c n).1) ((rk_label m c n).2) := by
  obtain ⟨hD, hD7, hY, hY8, hC, hC8, hL, hL4, hW, hW20⟩ := id hI
  refine Ei.of (by decide) (Nat.le_of_ble_eq_true rfl) ?_
  show Z _ 0 [(0, .ref 57), (1, .int c), (2, .int n)] _ _ _ _
  refine z_aload_n 0 dX7_label_0 rfl rfl ?_
  refine z_iload_n 1 dX7_label_1 rfl rfl ?_
  refine y_Vi [_] _ kX7_190 (c7_isDead hI) rfl rfl dX7_label_2 rfl rfl (Nat.le_of_ble_eq_true rfl) (Nat.le_of_ble_eq_true rfl) ⟨Nat.zero_le _, Nat.zero_le _⟩ ?_
  refine z_if_eq 16 dX7_label_5 (by decide) (fun c_1 => ?_) (fun c_1 => ?_)
  · refine z_ldc (-1000000001) dX7_label_16 nX7_186 ?_
    exact y_iret dX7_label_18 rfl (by simp [rk_label, c_1]) (by simp [rk_label, c_1])
  · refine z_aload_n 0 dX7_label_8 rfl rfl ?_
    refine z_iload_n 2 dX7_label_9 rfl rfl ?_
    refine y_Vi [_] _ kX7_190 (c7_isDead hI) rfl rfl dX7_label_10 rfl rfl (Nat.le_of_ble_eq_true rfl) (Nat.le_of_ble_eq_true rfl) ⟨Nat.zero_le _, Nat.zero_le _⟩ ?_
    refine z_if_ne 19 dX7_label_13 (by decide) (fun c_2 => ?_) (fun c_2 => ?_)
    · refine z_aload_n 0 dX7_label_19 rfl rfl ?_
      refine y_getR fX7_7 dX7_label_20 rfl rfl ?_
      refine z_bipush 56 dX7_label_23 (by decide) ?_
      refine z_iload_n 1 dX7_label_25 rfl rfl ?_
      refine z_iadd dX7_label_26 ?_
      refine y_wld (X := 0) (o := 56) (d := c) dX7_label_27 (wiB (sin_vp hD (by omega) c_1)) (wb (by decide) (sin_vp hD (by omega) c_1) (by decide)) ?_
      refine z_topi (fun v_3 e_3 => ?_)
      refine z_istore_n (lv' := [(3, .int v_3), (0, .ref 57), (1, .int c), (2, .int n)]) dX7_label_28 rfl (Nat.le_of_ble_eq_true rfl) rfl ?_
      refine z_aload_n 1 dX7_label_29 rfl rfl ?_
      refine y_getR fX7_7 dX7_label_30 rfl rfl ?_
      refine z_bipush 56 dX7_label_33 (by decide) ?_
      refine z_iload_n 2 dX7_label_35 rfl rfl ?_
      refine z_iadd dX7_label_36 ?_
      refine z_iload_n 3 dX7_label_37 rfl rfl ?_
      refine y_wst (X := 0) (o := 56) (d := c) dX7_label_38 (wiB (sin_vp hD (by omega) c_1)) (wb (by decide) (sin_vp hD (by omega) c_1) (by decide)) ?_
      refine z_iload_n 0 dX7_label_39 rfl rfl ?_
      exact y_iret dX7_label_40 rfl (by simp [rk_label, c_1, c_2, e_3]) (by simp [rk_label, c_1, c_2, e_3])
    · refine z_ldc (-1000000001) dX7_label_16 nX7_186 ?_
      exact y_iret dX7_label_18 rfl (by simp [rk_label, c_1, c_2]) (by simp [rk_label, c_1, c_2])
set_option maxRecDepth 100000 in
set_option maxHeartbeats 4000000 in
theorem c7_mark {m : zmem} {D Y C L W : Nat} (hI : RI m D Y C L W) {c s : Int32} : Ei MX7_mark 2 [.ref 57, .int c, .int s] m ((rk_mark m c s).1) ((rk_mark m c s).2) := by
  obtain ⟨hD, hD7, hY, hY8, hC, hC8, hL, hL4, hW, hW20⟩ := id hI
  refine Ei.of (by decide) (Nat.le_of_ble_eq_true rfl) ?_
  show Z _ 0 [(0, .ref 57), (1, .int c), (2, .int s)] _ _ _ _
  refine z_aload_n 0 dX7_mark_0 rfl rfl ?_
  refine z_iload_n 1 dX7_mark_1 rfl rfl ?_
  refine y_Vi [_] _ kX7_190 (c7_isDead hI) rfl rfl dX7_mark_2 rfl rfl (Nat.le_of_ble_eq_true rfl) (Nat.le_of_ble_eq_true rfl) ⟨Nat.zero_le _, Nat.zero_le _⟩ ?_
  refine z_if_eq 28 dX7_mark_5 (by decide) (fun c_1 => ?_) (fun c_1 => ?_)
  · refine z_ldc (-1000000001) dX7_mark_28 nX7_186 ?_
    exact y_iret dX7_mark_30 rfl (by simp [rk_mark, c_1]) (by simp [rk_mark, c_1])
  · refine z_iload_n 2 dX7_mark_8 rfl rfl ?_
    refine z_i2l dX7_mark_9 ?_
    refine z_lconst 0 dX7_mark_10 (by decide) ?_
    refine z_iconst 1 dX7_mark_11 (by decide) ?_
    refine z_aload_n 0 dX7_mark_12 rfl rfl ?_
    refine y_getR fX7_36 dX7_mark_13 rfl rfl ?_
    refine z_iconst 1 dX7_mark_16 (by decide) ?_
    refine y_ald (N := 1) dX7_mark_17 rfl rfl (by decide) ?_
    refine z_ishl dX7_mark_18 ?_
    refine z_iconst 1 dX7_mark_19 (by decide) ?_
    refine z_isub dX7_mark_20 ?_
    refine z_i2l dX7_mark_21 ?_
    refine y_Si [_, _, _] _ kX7_77 (c7_ini (lo := 0) (hh := rfl)) dX7_mark_22 rfl rfl (Nat.le_of_ble_eq_true rfl) (Nat.le_of_ble_eq_true rfl) ⟨Nat.zero_le _, Nat.zero_le _⟩ ?_
    refine z_if_ne 31 dX7_mark_25 (by decide) (fun c_2 => ?_) (fun c_2 => ?_)
    · refine z_aload_n 0 dX7_mark_31 rfl rfl ?_
      refine y_getR fX7_7 dX7_mark_32 rfl rfl ?_
      refine z_bipush 64 dX7_mark_35 (by decide) ?_
      refine z_iload_n 1 dX7_mark_37 rfl rfl ?_
      refine z_iadd dX7_mark_38 ?_
      refine y_wld (X := 0) (o := 64) (d := c) dX7_mark_39 (wiB (sin_vp hD (by omega) c_1)) (wb (by decide) (sin_vp hD (by omega) c_1) (by decide)) ?_
      refine z_topi (fun v_3 e_3 => ?_)
      refine z_istore_n (lv' := [(3, .int v_3), (0, .ref 57), (1, .int c), (2, .int s)]) dX7_mark_40 rfl (Nat.le_of_ble_eq_true rfl) rfl ?_
      refine z_aload_n 1 dX7_mark_41 rfl rfl ?_
      refine y_getR fX7_7 dX7_mark_42 rfl rfl ?_
      refine z_bipush 64 dX7_mark_45 (by decide) ?_
      refine z_iload_n 2 dX7_mark_47 rfl rfl ?_
      refine z_iadd dX7_mark_48 ?_
      refine z_iload_n 3 dX7_mark_49 rfl rfl ?_
      refine y_wst (X := 0) (o := 64) (d := c) dX7_mark_50 (wiB (sin_vp hD (by omega) c_1)) (wb (by decide) (sin_vp hD (by omega) c_1) (by decide)) ?_
      refine z_iload_n 0 dX7_mark_51 rfl rfl ?_
      exact y_iret dX7_mark_52 rfl (by simp [rk_mark, c_1, c_2, e_3]) (by simp [rk_mark, c_1, c_2, e_3])
    · refine z_ldc (-1000000001) dX7_mark_28 nX7_186 ?_
      exact y_iret dX7_mark_30 rfl (by simp [rk_mark, c_1, c_2]) (by simp [rk_mark, c_1, c_2])
set_option maxRecDepth 100000 in
set_option maxHeartbeats 4000000 in
theorem c7_ahead {m : zmem} {D Y C L W : Nat} (hI : RI m D Y C L W) {s : Int32} : Ei MX7_ahead 1 [.ref 57, .int s] m (rahd D s) (m) := by
  obtain ⟨hD, hD7, hY, hY8, hC, hC8, hL, hL4, hW, hW20⟩ := id hI
  refine Ei.of (by decide) (Nat.le_of_ble_eq_true rfl) ?_
  show Z _ 0 [(0, .ref 57), (1, .int s)] _ _ _ _
  refine z_aload_n 0 dX7_ahead_0 rfl rfl ?_
  refine y_getR fX7_36 dX7_ahead_1 rfl rfl ?_
  refine z_iconst 1 dX7_ahead_4 (by decide) ?_
  refine y_ald (N := 1) dX7_ahead_5 rfl rfl (by decide) ?_
  refine z_iload_n 1 dX7_ahead_6 rfl rfl ?_
  refine y_Si [_] _ kX7_236 c7_ones dX7_ahead_7 rfl rfl (Nat.le_of_ble_eq_true rfl) (Nat.le_of_ble_eq_true rfl) ⟨Nat.zero_le _, Nat.zero_le _⟩ ?_
  refine z_isub dX7_ahead_10 ?_
  exact y_iret dX7_ahead_11 rfl (by rw [rahd, hD]) rfl
set_option maxRecDepth 100000 in
set_option maxHeartbeats 4000000 in
theorem c7_names {m : zmem} {D Y C L W : Nat} (hI : RI m D Y C L W)  : E0 MX7_findNames 2 [.ref 57] m (rnames m D) := by
  obtain ⟨hD, hD7, hY, hY8, hC, hC8, hL, hL4, hW, hW20⟩ := id hI
  have h128 := two_D hD7
  refine E0.of (by decide) (Nat.le_of_ble_eq_true rfl) ?_
  show Z _ 0 [(0, .ref 57)] _ _ _ _
  refine z_iconst 0 dX7_findNames_0 (by decide) ?_
  refine z_istore_n (lv' := [(1, .int 0), (0, .ref 57)]) dX7_findNames_1 rfl (Nat.le_of_ble_eq_true rfl) rfl ?_
  have loop2 : ∀ (n : Nat) (k : Nat) (mm : zmem), k + n = 2 ^ D → rnames m D = sfold (rfo D) n k mm → W7n m mm → Z (zMB (Q0 (rnames m D)) 2 MX7_findNames) 2 [(0, .ref 57), (1, .int (Int32.ofNat k))] [] (hp mm) 0 0 := by
    intro n
    induction n with
    | zero =>
      intro k mm hk hr hw
      refine z_iload_n 1 dX7_findNames_2 rfl rfl ?_
      refine z_iconst 1 dX7_findNames_3 (by decide) ?_
      refine z_aload_n 0 dX7_findNames_4 rfl rfl ?_
      refine y_getR fX7_36 dX7_findNames_5 rfl rfl ?_
      refine z_iconst 1 dX7_findNames_8 (by decide) ?_
      refine y_ald (N := 1) dX7_findNames_9 rfl rfl (by decide) ?_
      refine z_ishl dX7_findNames_10 ?_
      refine z_icmp_ge 191 dX7_findNames_11 (by decide) (fun c_1 => ?_) (fun c_1 => ?_)
      · exact y_vret dX7_findNames_191 rfl hr.symm
      · exact (dz rfl ((congrArg (fun x => (1 : Int32) <<< (x &&& 31)) ((hI.n hw).1)).trans (shl_D hD7)) (by omega) (by omega) c_1).elim
    | succ n ih2 =>
      intro k mm hk hr hw
      refine z_iload_n 1 dX7_findNames_2 rfl rfl ?_
      refine z_iconst 1 dX7_findNames_3 (by decide) ?_
      refine z_aload_n 0 dX7_findNames_4 rfl rfl ?_
      refine y_getR fX7_36 dX7_findNames_5 rfl rfl ?_
      refine z_iconst 1 dX7_findNames_8 (by decide) ?_
      refine y_ald (N := 1) dX7_findNames_9 rfl rfl (by decide) ?_
      refine z_ishl dX7_findNames_10 ?_
      refine z_icmp_ge 191 dX7_findNames_11 (by decide) (fun c_2 => ?_) (fun c_2 => ?_)
      · exact (ds rfl ((congrArg (fun x => (1 : Int32) <<< (x &&& 31)) ((hI.n hw).1)).trans (shl_D hD7)) (by omega) (by omega) c_2).elim
      · have hk2 : k < 2 ^ D := by omega
        refine z_aload_n 0 dX7_findNames_14 rfl rfl ?_
        refine z_iload_n 1 dX7_findNames_15 rfl rfl ?_
        refine y_Vi [_] _ kX7_279 (c7_ahead (hI.n hw)) rfl rfl dX7_findNames_16 rfl rfl (Nat.le_of_ble_eq_true rfl) (Nat.le_of_ble_eq_true rfl) ⟨Nat.zero_le _, Nat.zero_le _⟩ ?_
        refine z_topi (fun v_3 e_3 => ?_)
        refine z_istore_n (lv' := [(2, .int v_3), (0, .ref 57), (1, .int (Int32.ofNat k))]) dX7_findNames_19 rfl (Nat.le_of_ble_eq_true rfl) rfl ?_
        have hk8 : k < 128 := by omega
        refine z_aload_n 1 dX7_findNames_20 rfl rfl ?_
        refine y_getR fX7_60 dX7_findNames_21 rfl rfl ?_
        refine z_iload_n 2 dX7_findNames_24 rfl rfl ?_
        refine z_iload_n 2 dX7_findNames_25 rfl rfl ?_
        refine z_if_ne 33 dX7_findNames_26 (by decide) (fun c_4 => ?_) (fun c_4 => ?_)
        · refine z_iconst 0 dX7_findNames_33 (by decide) ?_
          refine y_Si [_] _ kX7_157 (c7_one (by first | exact rlf01 _ _ _ | exact roff01 _ _ _ _ _ | decide)) dX7_findNames_34 rfl rfl (Nat.le_of_ble_eq_true rfl) (Nat.le_of_ble_eq_true rfl) ⟨Nat.zero_le _, Nat.zero_le _⟩ ?_
          refine y_ast (N := k) dX7_findNames_37 rfl rfl (by omega) ?_
          refine z_aload_n 1 dX7_findNames_38 rfl rfl ?_
          refine y_getR fX7_63 dX7_findNames_39 rfl rfl ?_
          refine z_iload_n 2 dX7_findNames_42 rfl rfl ?_
          refine z_iload_n 2 dX7_findNames_43 rfl rfl ?_
          refine z_if_ne 51 dX7_findNames_44 (by decide) (fun c_5 => ?_) (fun c_5 => ?_)
          · refine z_sipush 999 dX7_findNames_51 (by decide) ?_
            refine y_ast (N := k) dX7_findNames_54 rfl rfl (by omega) ?_
            refine z_iconst 0 dX7_findNames_55 (by decide) ?_
            refine z_istore_n (lv' := [(3, .int 0), (2, .int v_3), (0, .ref 57), (1, .int (Int32.ofNat k))]) dX7_findNames_56 rfl (Nat.le_of_ble_eq_true rfl) rfl ?_
            have loop57 : ∀ (q : Nat) (j : Nat) (mm2 : zmem) (cc : Int32), j + q = D → rahd D (Int32.ofNat k) = cc → k < 128 → k < 2 ^ D → rfo D k mm = sfold (rfn D k) q j mm2 → W7n m mm2 → Z (zMB (Q0 (rnames m D)) 2 MX7_findNames) 57 [(0, .ref 57), (1, .int (Int32.ofNat k)), (2, .int cc), (3, .int (Int32.ofNat j))] [] (hp mm2) 0 0 := by
              intro q
              induction q with
              | zero =>
                intro j mm2 cc hj hcc hk8 hk2 hr2 hw2
                refine z_iload_n 3 dX7_findNames_57 rfl rfl ?_
                refine z_aload_n 0 dX7_findNames_58 rfl rfl ?_
                refine y_getR fX7_36 dX7_findNames_59 rfl rfl ?_
                refine z_iconst 1 dX7_findNames_62 (by decide) ?_
                refine y_ald (N := 1) dX7_findNames_63 rfl rfl (by decide) ?_
                refine z_icmp_ge 185 dX7_findNames_64 (by decide) (fun c_6 => ?_) (fun c_6 => ?_)
                · obtain ⟨v_7, e_7⟩ : ∃ y : Int32, y = (Int32.ofNat k) + 1 := ⟨_, rfl⟩
                  refine z_iinc (lv' := [(1, .int v_7), (0, .ref 57), (2, .int cc), (3, .int (Int32.ofNat j))]) 1 v_7 dX7_findNames_185 rfl (by rw [e_7]; rfl) (Nat.le_of_ble_eq_true rfl) rfl ?_
                  refine z_goto 2 dX7_findNames_188 (by decide) ?_
                  obtain rfl : v_7 = Int32.ofNat (k + 1) := e_7.trans (nat_succ k)
                  refine z_sub [1,0] rfl ?_
                  exact ih2 (k + 1) _ (by omega) (hr.trans (congrArg (sfold _ n (k + 1)) (by rw [hr2]; first | rfl | (exact sfold_id (fun j s => by simp [rfn, c_2, c_4, c_5, c_6]) _ _ _)))) hw2
                · exact (dz rfl ((hI.n hw2).1) (by omega) (by omega) c_6).elim
              | succ q ih57 =>
                intro j mm2 cc hj hcc hk8 hk2 hr2 hw2
                refine z_iload_n 3 dX7_findNames_57 rfl rfl ?_
                refine z_aload_n 0 dX7_findNames_58 rfl rfl ?_
                refine y_getR fX7_36 dX7_findNames_59 rfl rfl ?_
                refine z_iconst 1 dX7_findNames_62 (by decide) ?_
                refine y_ald (N := 1) dX7_findNames_63 rfl rfl (by decide) ?_
                refine z_icmp_ge 185 dX7_findNames_64 (by decide) (fun c_8 => ?_) (fun c_8 => ?_)
                · exact (ds rfl ((hI.n hw2).1) (by omega) (by omega) c_8).elim
                · refine z_iload_n 1 dX7_findNames_67 rfl rfl ?_
                  refine z_if_le 185 dX7_findNames_68 (by decide) (fun c_9 => ?_) (fun c_9 => ?_)
                  · obtain ⟨v_10, e_10⟩ : ∃ y : Int32, y = (Int32.ofNat k) + 1 := ⟨_, rfl⟩
                    refine z_iinc (lv' := [(1, .int v_10), (0, .ref 57), (2, .int cc), (3, .int (Int32.ofNat j))]) 1 v_10 dX7_findNames_185 rfl (by rw [e_10]; rfl) (Nat.le_of_ble_eq_true rfl) rfl ?_
                    refine z_goto 2 dX7_findNames_188 (by decide) ?_
                    obtain rfl : v_10 = Int32.ofNat (k + 1) := e_10.trans (nat_succ k)
                    refine z_sub [1,0] rfl ?_
                    exact ih2 (k + 1) _ (by omega) (hr.trans (congrArg (sfold _ n (k + 1)) (by rw [hr2]; first | rfl | (exact sfold_id (fun j s => by simp [rfn, c_2, c_4, c_5, c_8, c_9]) _ _ _)))) hw2
                  · refine z_iload_n 1 dX7_findNames_71 rfl rfl ?_
                    refine z_iload_n 3 dX7_findNames_72 rfl rfl ?_
                    refine y_Si [_, _] _ kX7_150 c7_has dX7_findNames_73 rfl rfl (Nat.le_of_ble_eq_true rfl) (Nat.le_of_ble_eq_true rfl) ⟨Nat.zero_le _, Nat.zero_le _⟩ ?_
                    refine z_if_eq 179 dX7_findNames_76 (by decide) (fun c_11 => ?_) (fun c_11 => ?_)
                    · obtain ⟨v_12, e_12⟩ : ∃ y : Int32, y = (Int32.ofNat j) + 1 := ⟨_, rfl⟩
                      refine z_iinc (lv' := [(3, .int v_12), (0, .ref 57), (1, .int (Int32.ofNat k)), (2, .int cc)]) 3 v_12 dX7_findNames_179 rfl (by rw [e_12]; rfl) (Nat.le_of_ble_eq_true rfl) rfl ?_
                      refine z_goto 57 dX7_findNames_182 (by decide) ?_
                      obtain rfl : v_12 = Int32.ofNat (j + 1) := e_12.trans (nat_succ j)
                      refine z_sub [1,2,3,0] rfl ?_
                      exact ih57 (j + 1) _ _ (by omega) hcc hk8 hk2 (hr2.trans (congrArg (sfold _ q (j + 1)) (by simp only [rfn, rfn1, rfn2, rfv, hcc, c_8, c_9, c_11, eq_self, not_true_eq_false, not_false_eq_true, if_true, if_false, reduceIte]))) (by first | exact hw2 | exact hw2.tr (W7n.m1.tr W7n.m2))
                    · refine z_aload_n 0 dX7_findNames_79 rfl rfl ?_
                      refine y_getR fX7_7 dX7_findNames_80 rfl rfl ?_
                      refine z_bipush 64 dX7_findNames_83 (by decide) ?_
                      refine z_iload_n 2 dX7_findNames_85 rfl rfl ?_
                      refine z_iadd dX7_findNames_86 ?_
                      refine y_wld (X := 0) (o := 64) (d := cc) dX7_findNames_87 (wiB (hcc ▸ ahd_vp hD7 hk2)) (wb (by decide) (hcc ▸ ahd_vp hD7 hk2) (by decide)) ?_
                      refine z_iload_n 3 dX7_findNames_88 rfl rfl ?_
                      refine y_Si [_, _] _ kX7_150 c7_has dX7_findNames_89 rfl rfl (Nat.le_of_ble_eq_true rfl) (Nat.le_of_ble_eq_true rfl) ⟨Nat.zero_le _, Nat.zero_le _⟩ ?_
                      refine z_if_eq 179 dX7_findNames_92 (by decide) (fun c_13 => ?_) (fun c_13 => ?_)
                      · obtain ⟨v_14, e_14⟩ : ∃ y : Int32, y = (Int32.ofNat j) + 1 := ⟨_, rfl⟩
                        refine z_iinc (lv' := [(3, .int v_14), (0, .ref 57), (1, .int (Int32.ofNat k)), (2, .int cc)]) 3 v_14 dX7_findNames_179 rfl (by rw [e_14]; rfl) (Nat.le_of_ble_eq_true rfl) rfl ?_
                        refine z_goto 57 dX7_findNames_182 (by decide) ?_
                        obtain rfl : v_14 = Int32.ofNat (j + 1) := e_14.trans (nat_succ j)
                        refine z_sub [1,2,3,0] rfl ?_
                        exact ih57 (j + 1) _ _ (by omega) hcc hk8 hk2 (hr2.trans (congrArg (sfold _ q (j + 1)) (by simp only [rfn, rfn1, rfn2, rfv, hcc, c_8, c_9, c_11, c_13, eq_self, not_true_eq_false, not_false_eq_true, if_true, if_false, reduceIte]))) (by first | exact hw2 | exact hw2.tr (W7n.m1.tr W7n.m2))
                      · refine z_iload_n 1 dX7_findNames_95 rfl rfl ?_
                        refine z_iconst 1 dX7_findNames_96 (by decide) ?_
                        refine z_iload_n 3 dX7_findNames_97 rfl rfl ?_
                        refine z_ishl dX7_findNames_98 ?_
                        refine z_iconst (-1) dX7_findNames_99 (by decide) ?_
                        refine z_ixor dX7_findNames_100 ?_
                        refine z_iand dX7_findNames_101 ?_
                        refine z_itop (y := (rr (Int32.ofNat k) j)) rfl ?_
                        refine z_istore (lv' := [(4, .int (rr (Int32.ofNat k) j)), (0, .ref 57), (1, .int (Int32.ofNat k)), (2, .int cc), (3, .int (Int32.ofNat j))]) dX7_findNames_102 (Nat.le_of_ble_eq_true rfl) rfl ?_
                        refine z_aload_n 1 dX7_findNames_104 rfl rfl ?_
                        refine y_getR fX7_63 dX7_findNames_105 rfl rfl ?_
                        refine z_iload 0 dX7_findNames_108 rfl ?_
                        refine y_ald (N := (rr (Int32.ofNat k) j).toNatClampNeg) dX7_findNames_110 rfl (vp_nn (rr_vp (vp_k hk8) j)) (vl4 (rr_vp (vp_k hk8) j)) ?_
                        refine z_aload_n 1 dX7_findNames_111 rfl rfl ?_
                        refine y_getR fX7_7 dX7_findNames_112 rfl rfl ?_
                        refine z_bipush 56 dX7_findNames_115 (by decide) ?_
                        refine z_iload_n 3 dX7_findNames_117 rfl rfl ?_
                        refine z_iadd dX7_findNames_118 ?_
                        refine y_wld (X := 0) (o := 56) (d := cc) dX7_findNames_119 (wiB (hcc ▸ ahd_vp hD7 hk2)) (wb (by decide) (hcc ▸ ahd_vp hD7 hk2) (by decide)) ?_
                        refine z_iload_n 4 dX7_findNames_120 rfl rfl ?_
                        refine z_icmp_eq 128 dX7_findNames_121 (by decide) (fun c_15 => ?_) (fun c_15 => ?_)
                        · refine z_iconst 0 dX7_findNames_128 (by decide) ?_
                          refine y_Si [_] _ kX7_157 (c7_one (by first | exact rlf01 _ _ _ | exact roff01 _ _ _ _ _ | decide)) dX7_findNames_129 rfl rfl (Nat.le_of_ble_eq_true rfl) (Nat.le_of_ble_eq_true rfl) ⟨Nat.zero_le _, Nat.zero_le _⟩ ?_
                          refine z_iadd dX7_findNames_132 ?_
                          refine z_topi (fun v_16 e_16 => ?_)
                          refine z_istore (lv' := [(5, .int v_16), (4, .int (rr (Int32.ofNat k) j)), (0, .ref 57), (1, .int (Int32.ofNat k)), (2, .int cc), (3, .int (Int32.ofNat j))]) dX7_findNames_133 (Nat.le_of_ble_eq_true rfl) rfl ?_
                          refine z_aload_n 2 dX7_findNames_135 rfl rfl ?_
                          refine y_getR fX7_60 dX7_findNames_136 rfl rfl ?_
                          refine z_iload_n 3 dX7_findNames_139 rfl rfl ?_
                          refine z_dup2 dX7_findNames_140 rfl rfl ?_
                          refine y_ald (N := k) dX7_findNames_141 rfl rfl (by omega) ?_
                          refine z_aload_n 2 dX7_findNames_142 rfl rfl ?_
                          refine y_getR fX7_60 dX7_findNames_143 rfl rfl ?_
                          refine z_iload 1 dX7_findNames_146 rfl ?_
                          refine y_ald (N := (rr (Int32.ofNat k) j).toNatClampNeg) dX7_findNames_148 rfl (vp_nn (rr_vp (vp_k hk8) j)) (vl4 (rr_vp (vp_k hk8) j)) ?_
                          refine z_iadd dX7_findNames_149 ?_
                          refine y_ast (N := k) dX7_findNames_150 rfl rfl (by omega) ?_
                          refine z_aload_n 2 dX7_findNames_151 rfl rfl ?_
                          refine y_getR fX7_63 dX7_findNames_152 rfl rfl ?_
                          refine z_iload_n 3 dX7_findNames_155 rfl rfl ?_
                          refine z_iload 0 dX7_findNames_156 rfl ?_
                          refine z_aload_n 2 dX7_findNames_158 rfl rfl ?_
                          refine y_getR fX7_63 dX7_findNames_159 rfl rfl ?_
                          refine z_iload_n 3 dX7_findNames_162 rfl rfl ?_
                          refine y_ald (N := k) dX7_findNames_163 rfl rfl (by omega) ?_
                          refine z_icmp_ge 172 dX7_findNames_164 (by decide) (fun c_17 => ?_) (fun c_17 => ?_)
                          · refine z_aload_n 2 dX7_findNames_172 rfl rfl ?_
                            refine y_getR fX7_63 dX7_findNames_173 rfl rfl ?_
                            refine z_iload_n 3 dX7_findNames_176 rfl rfl ?_
                            refine y_ald (N := k) dX7_findNames_177 rfl rfl (by omega) ?_
                            refine y_ast (N := k) dX7_findNames_178 rfl rfl (by omega) ?_
                            obtain ⟨v_18, e_18⟩ : ∃ y : Int32, y = (Int32.ofNat j) + 1 := ⟨_, rfl⟩
                            refine z_iinc (lv' := [(3, .int v_18), (5, .int v_16), (4, .int (rr (Int32.ofNat k) j)), (0, .ref 57), (1, .int (Int32.ofNat k)), (2, .int cc)]) 5 v_18 dX7_findNames_179 rfl (by rw [e_18]; rfl) (Nat.le_of_ble_eq_true rfl) rfl ?_
                            refine z_goto 57 dX7_findNames_182 (by decide) ?_
                            obtain rfl : v_18 = Int32.ofNat (j + 1) := e_18.trans (nat_succ j)
                            refine z_sub [3,4,5,0] rfl ?_
                            exact ih57 (j + 1) _ _ (by omega) hcc hk8 hk2 (hr2.trans (congrArg (sfold _ q (j + 1)) (by simp only [rfn, rfn1, rfn2, rfv, hcc, c_8, c_9, c_11, c_13, c_15, c_17, eq_self, not_true_eq_false, not_false_eq_true, if_true, if_false, reduceIte, ← e_16]))) (by first | exact hw2 | exact hw2.tr (W7n.m1.tr W7n.m2))
                          · refine z_iload 0 dX7_findNames_167 rfl ?_
                            refine z_goto 178 dX7_findNames_169 (by decide) ?_
                            refine y_ast (N := k) dX7_findNames_178 rfl rfl (by omega) ?_
                            obtain ⟨v_19, e_19⟩ : ∃ y : Int32, y = (Int32.ofNat j) + 1 := ⟨_, rfl⟩
                            refine z_iinc (lv' := [(3, .int v_19), (5, .int v_16), (4, .int (rr (Int32.ofNat k) j)), (0, .ref 57), (1, .int (Int32.ofNat k)), (2, .int cc)]) 5 v_19 dX7_findNames_179 rfl (by rw [e_19]; rfl) (Nat.le_of_ble_eq_true rfl) rfl ?_
                            refine z_goto 57 dX7_findNames_182 (by decide) ?_
                            obtain rfl : v_19 = Int32.ofNat (j + 1) := e_19.trans (nat_succ j)
                            refine z_sub [3,4,5,0] rfl ?_
                            exact ih57 (j + 1) _ _ (by omega) hcc hk8 hk2 (hr2.trans (congrArg (sfold _ q (j + 1)) (by simp only [rfn, rfn1, rfn2, rfv, hcc, c_8, c_9, c_11, c_13, c_15, c_17, eq_self, not_true_eq_false, not_false_eq_true, if_true, if_false, reduceIte, ← e_16]))) (by first | exact hw2 | exact hw2.tr (W7n.m1.tr W7n.m2))
                        · refine z_iconst 1 dX7_findNames_124 (by decide) ?_
                          refine z_goto 129 dX7_findNames_125 (by decide) ?_
                          refine y_Si [_] _ kX7_157 (c7_one (by first | exact rlf01 _ _ _ | exact roff01 _ _ _ _ _ | decide)) dX7_findNames_129 rfl rfl (Nat.le_of_ble_eq_true rfl) (Nat.le_of_ble_eq_true rfl) ⟨Nat.zero_le _, Nat.zero_le _⟩ ?_
                          refine z_iadd dX7_findNames_132 ?_
                          refine z_topi (fun v_20 e_20 => ?_)
                          refine z_istore (lv' := [(5, .int v_20), (4, .int (rr (Int32.ofNat k) j)), (0, .ref 57), (1, .int (Int32.ofNat k)), (2, .int cc), (3, .int (Int32.ofNat j))]) dX7_findNames_133 (Nat.le_of_ble_eq_true rfl) rfl ?_
                          refine z_aload_n 2 dX7_findNames_135 rfl rfl ?_
                          refine y_getR fX7_60 dX7_findNames_136 rfl rfl ?_
                          refine z_iload_n 3 dX7_findNames_139 rfl rfl ?_
                          refine z_dup2 dX7_findNames_140 rfl rfl ?_
                          refine y_ald (N := k) dX7_findNames_141 rfl rfl (by omega) ?_
                          refine z_aload_n 2 dX7_findNames_142 rfl rfl ?_
                          refine y_getR fX7_60 dX7_findNames_143 rfl rfl ?_
                          refine z_iload 1 dX7_findNames_146 rfl ?_
                          refine y_ald (N := (rr (Int32.ofNat k) j).toNatClampNeg) dX7_findNames_148 rfl (vp_nn (rr_vp (vp_k hk8) j)) (vl4 (rr_vp (vp_k hk8) j)) ?_
                          refine z_iadd dX7_findNames_149 ?_
                          refine y_ast (N := k) dX7_findNames_150 rfl rfl (by omega) ?_
                          refine z_aload_n 2 dX7_findNames_151 rfl rfl ?_
                          refine y_getR fX7_63 dX7_findNames_152 rfl rfl ?_
                          refine z_iload_n 3 dX7_findNames_155 rfl rfl ?_
                          refine z_iload 0 dX7_findNames_156 rfl ?_
                          refine z_aload_n 2 dX7_findNames_158 rfl rfl ?_
                          refine y_getR fX7_63 dX7_findNames_159 rfl rfl ?_
                          refine z_iload_n 3 dX7_findNames_162 rfl rfl ?_
                          refine y_ald (N := k) dX7_findNames_163 rfl rfl (by omega) ?_
                          refine z_icmp_ge 172 dX7_findNames_164 (by decide) (fun c_21 => ?_) (fun c_21 => ?_)
                          · refine z_aload_n 2 dX7_findNames_172 rfl rfl ?_
                            refine y_getR fX7_63 dX7_findNames_173 rfl rfl ?_
                            refine z_iload_n 3 dX7_findNames_176 rfl rfl ?_
                            refine y_ald (N := k) dX7_findNames_177 rfl rfl (by omega) ?_
                            refine y_ast (N := k) dX7_findNames_178 rfl rfl (by omega) ?_
                            obtain ⟨v_22, e_22⟩ : ∃ y : Int32, y = (Int32.ofNat j) + 1 := ⟨_, rfl⟩
                            refine z_iinc (lv' := [(3, .int v_22), (5, .int v_20), (4, .int (rr (Int32.ofNat k) j)), (0, .ref 57), (1, .int (Int32.ofNat k)), (2, .int cc)]) 5 v_22 dX7_findNames_179 rfl (by rw [e_22]; rfl) (Nat.le_of_ble_eq_true rfl) rfl ?_
                            refine z_goto 57 dX7_findNames_182 (by decide) ?_
                            obtain rfl : v_22 = Int32.ofNat (j + 1) := e_22.trans (nat_succ j)
                            refine z_sub [3,4,5,0] rfl ?_
                            exact ih57 (j + 1) _ _ (by omega) hcc hk8 hk2 (hr2.trans (congrArg (sfold _ q (j + 1)) (by simp only [rfn, rfn1, rfn2, rfv, hcc, c_8, c_9, c_11, c_13, c_15, c_21, eq_self, not_true_eq_false, not_false_eq_true, if_true, if_false, reduceIte, ← e_20]))) (by first | exact hw2 | exact hw2.tr (W7n.m1.tr W7n.m2))
                          · refine z_iload 0 dX7_findNames_167 rfl ?_
                            refine z_goto 178 dX7_findNames_169 (by decide) ?_
                            refine y_ast (N := k) dX7_findNames_178 rfl rfl (by omega) ?_
                            obtain ⟨v_23, e_23⟩ : ∃ y : Int32, y = (Int32.ofNat j) + 1 := ⟨_, rfl⟩
                            refine z_iinc (lv' := [(3, .int v_23), (5, .int v_20), (4, .int (rr (Int32.ofNat k) j)), (0, .ref 57), (1, .int (Int32.ofNat k)), (2, .int cc)]) 5 v_23 dX7_findNames_179 rfl (by rw [e_23]; rfl) (Nat.le_of_ble_eq_true rfl) rfl ?_
                            refine z_goto 57 dX7_findNames_182 (by decide) ?_
                            obtain rfl : v_23 = Int32.ofNat (j + 1) := e_23.trans (nat_succ j)
                            refine z_sub [3,4,5,0] rfl ?_
                            exact ih57 (j + 1) _ _ (by omega) hcc hk8 hk2 (hr2.trans (congrArg (sfold _ q (j + 1)) (by simp only [rfn, rfn1, rfn2, rfv, hcc, c_8, c_9, c_11, c_13, c_15, c_21, eq_self, not_true_eq_false, not_false_eq_true, if_true, if_false, reduceIte, ← e_20]))) (by first | exact hw2 | exact hw2.tr (W7n.m1.tr W7n.m2))
            refine z_sub [2,3,1,0] rfl ?_
            exact loop57 (D) 0 _ _ (by omega) (by simp only [e_3]) hk8 hk2 (congrArg (sfold (rfn D k) D 0) (by first | (simp [rfo0, c_2, c_4, c_5, e_3]; done) | exact absurd (by assumption) (by assumption : ¬ Int32.ofNat k = 0))) (hw.tr (W7n.m1.tr W7n.m2))
          · refine z_iconst 0 dX7_findNames_47 (by decide) ?_
            refine z_goto 54 dX7_findNames_48 (by decide) ?_
            refine y_ast (N := k) dX7_findNames_54 rfl rfl (by omega) ?_
            refine z_iconst 0 dX7_findNames_55 (by decide) ?_
            refine z_istore_n (lv' := [(3, .int 0), (2, .int v_3), (0, .ref 57), (1, .int (Int32.ofNat k))]) dX7_findNames_56 rfl (Nat.le_of_ble_eq_true rfl) rfl ?_
            have loop57 : ∀ (q : Nat) (j : Nat) (mm2 : zmem) (cc : Int32), j + q = D → rahd D (Int32.ofNat k) = cc → k < 128 → k < 2 ^ D → rfo D k mm = sfold (rfn D k) q j mm2 → W7n m mm2 → Z (zMB (Q0 (rnames m D)) 2 MX7_findNames) 57 [(0, .ref 57), (1, .int (Int32.ofNat k)), (2, .int cc), (3, .int (Int32.ofNat j))] [] (hp mm2) 0 0 := by
              intro q
              induction q with
              | zero =>
                intro j mm2 cc hj hcc hk8 hk2 hr2 hw2
                refine z_iload_n 3 dX7_findNames_57 rfl rfl ?_
                refine z_aload_n 0 dX7_findNames_58 rfl rfl ?_
                refine y_getR fX7_36 dX7_findNames_59 rfl rfl ?_
                refine z_iconst 1 dX7_findNames_62 (by decide) ?_
                refine y_ald (N := 1) dX7_findNames_63 rfl rfl (by decide) ?_
                refine z_icmp_ge 185 dX7_findNames_64 (by decide) (fun c_24 => ?_) (fun c_24 => ?_)
                · obtain ⟨v_25, e_25⟩ : ∃ y : Int32, y = (Int32.ofNat k) + 1 := ⟨_, rfl⟩
                  refine z_iinc (lv' := [(1, .int v_25), (0, .ref 57), (2, .int cc), (3, .int (Int32.ofNat j))]) 1 v_25 dX7_findNames_185 rfl (by rw [e_25]; rfl) (Nat.le_of_ble_eq_true rfl) rfl ?_
                  refine z_goto 2 dX7_findNames_188 (by decide) ?_
                  obtain rfl : v_25 = Int32.ofNat (k + 1) := e_25.trans (nat_succ k)
                  refine z_sub [1,0] rfl ?_
                  exact ih2 (k + 1) _ (by omega) (hr.trans (congrArg (sfold _ n (k + 1)) (by rw [hr2]; first | rfl | (exact sfold_id (fun j s => by simp [rfn, c_2, c_4, c_5, c_24]) _ _ _)))) hw2
                · exact (dz rfl ((hI.n hw2).1) (by omega) (by omega) c_24).elim
              | succ q ih57 =>
                intro j mm2 cc hj hcc hk8 hk2 hr2 hw2
                refine z_iload_n 3 dX7_findNames_57 rfl rfl ?_
                refine z_aload_n 0 dX7_findNames_58 rfl rfl ?_
                refine y_getR fX7_36 dX7_findNames_59 rfl rfl ?_
                refine z_iconst 1 dX7_findNames_62 (by decide) ?_
                refine y_ald (N := 1) dX7_findNames_63 rfl rfl (by decide) ?_
                refine z_icmp_ge 185 dX7_findNames_64 (by decide) (fun c_26 => ?_) (fun c_26 => ?_)
                · exact (ds rfl ((hI.n hw2).1) (by omega) (by omega) c_26).elim
                · refine z_iload_n 1 dX7_findNames_67 rfl rfl ?_
                  refine z_if_le 185 dX7_findNames_68 (by decide) (fun c_27 => ?_) (fun c_27 => ?_)
                  · obtain ⟨v_28, e_28⟩ : ∃ y : Int32, y = (Int32.ofNat k) + 1 := ⟨_, rfl⟩
                    refine z_iinc (lv' := [(1, .int v_28), (0, .ref 57), (2, .int cc), (3, .int (Int32.ofNat j))]) 1 v_28 dX7_findNames_185 rfl (by rw [e_28]; rfl) (Nat.le_of_ble_eq_true rfl) rfl ?_
                    refine z_goto 2 dX7_findNames_188 (by decide) ?_
                    obtain rfl : v_28 = Int32.ofNat (k + 1) := e_28.trans (nat_succ k)
                    refine z_sub [1,0] rfl ?_
                    exact ih2 (k + 1) _ (by omega) (hr.trans (congrArg (sfold _ n (k + 1)) (by rw [hr2]; first | rfl | (exact sfold_id (fun j s => by simp [rfn, c_2, c_4, c_5, c_26, c_27]) _ _ _)))) hw2
                  · refine z_iload_n 1 dX7_findNames_71 rfl rfl ?_
                    refine z_iload_n 3 dX7_findNames_72 rfl rfl ?_
                    refine y_Si [_, _] _ kX7_150 c7_has dX7_findNames_73 rfl rfl (Nat.le_of_ble_eq_true rfl) (Nat.le_of_ble_eq_true rfl) ⟨Nat.zero_le _, Nat.zero_le _⟩ ?_
                    refine z_if_eq 179 dX7_findNames_76 (by decide) (fun c_29 => ?_) (fun c_29 => ?_)
                    · obtain ⟨v_30, e_30⟩ : ∃ y : Int32, y = (Int32.ofNat j) + 1 := ⟨_, rfl⟩
                      refine z_iinc (lv' := [(3, .int v_30), (0, .ref 57), (1, .int (Int32.ofNat k)), (2, .int cc)]) 3 v_30 dX7_findNames_179 rfl (by rw [e_30]; rfl) (Nat.le_of_ble_eq_true rfl) rfl ?_
                      refine z_goto 57 dX7_findNames_182 (by decide) ?_
                      obtain rfl : v_30 = Int32.ofNat (j + 1) := e_30.trans (nat_succ j)
                      refine z_sub [1,2,3,0] rfl ?_
                      exact ih57 (j + 1) _ _ (by omega) hcc hk8 hk2 (hr2.trans (congrArg (sfold _ q (j + 1)) (by simp only [rfn, rfn1, rfn2, rfv, hcc, c_26, c_27, c_29, eq_self, not_true_eq_false, not_false_eq_true, if_true, if_false, reduceIte]))) (by first | exact hw2 | exact hw2.tr (W7n.m1.tr W7n.m2))
                    · refine z_aload_n 0 dX7_findNames_79 rfl rfl ?_
                      refine y_getR fX7_7 dX7_findNames_80 rfl rfl ?_
                      refine z_bipush 64 dX7_findNames_83 (by decide) ?_
                      refine z_iload_n 2 dX7_findNames_85 rfl rfl ?_
                      refine z_iadd dX7_findNames_86 ?_
                      refine y_wld (X := 0) (o := 64) (d := cc) dX7_findNames_87 (wiB (hcc ▸ ahd_vp hD7 hk2)) (wb (by decide) (hcc ▸ ahd_vp hD7 hk2) (by decide)) ?_
                      refine z_iload_n 3 dX7_findNames_88 rfl rfl ?_
                      refine y_Si [_, _] _ kX7_150 c7_has dX7_findNames_89 rfl rfl (Nat.le_of_ble_eq_true rfl) (Nat.le_of_ble_eq_true rfl) ⟨Nat.zero_le _, Nat.zero_le _⟩ ?_
                      refine z_if_eq 179 dX7_findNames_92 (by decide) (fun c_31 => ?_) (fun c_31 => ?_)
                      · obtain ⟨v_32, e_32⟩ : ∃ y : Int32, y = (Int32.ofNat j) + 1 := ⟨_, rfl⟩
                        refine z_iinc (lv' := [(3, .int v_32), (0, .ref 57), (1, .int (Int32.ofNat k)), (2, .int cc)]) 3 v_32 dX7_findNames_179 rfl (by rw [e_32]; rfl) (Nat.le_of_ble_eq_true rfl) rfl ?_
                        refine z_goto 57 dX7_findNames_182 (by decide) ?_
                        obtain rfl : v_32 = Int32.ofNat (j + 1) := e_32.trans (nat_succ j)
                        refine z_sub [1,2,3,0] rfl ?_
                        exact ih57 (j + 1) _ _ (by omega) hcc hk8 hk2 (hr2.trans (congrArg (sfold _ q (j + 1)) (by simp only [rfn, rfn1, rfn2, rfv, hcc, c_26, c_27, c_29, c_31, eq_self, not_true_eq_false, not_false_eq_true, if_true, if_false, reduceIte]))) (by first | exact hw2 | exact hw2.tr (W7n.m1.tr W7n.m2))
                      · refine z_iload_n 1 dX7_findNames_95 rfl rfl ?_
                        refine z_iconst 1 dX7_findNames_96 (by decide) ?_
                        refine z_iload_n 3 dX7_findNames_97 rfl rfl ?_
                        refine z_ishl dX7_findNames_98 ?_
                        refine z_iconst (-1) dX7_findNames_99 (by decide) ?_
                        refine z_ixor dX7_findNames_100 ?_
                        refine z_iand dX7_findNames_101 ?_
                        refine z_itop (y := (rr (Int32.ofNat k) j)) rfl ?_
                        refine z_istore (lv' := [(4, .int (rr (Int32.ofNat k) j)), (0, .ref 57), (1, .int (Int32.ofNat k)), (2, .int cc), (3, .int (Int32.ofNat j))]) dX7_findNames_102 (Nat.le_of_ble_eq_true rfl) rfl ?_
                        refine z_aload_n 1 dX7_findNames_104 rfl rfl ?_
                        refine y_getR fX7_63 dX7_findNames_105 rfl rfl ?_
                        refine z_iload 0 dX7_findNames_108 rfl ?_
                        refine y_ald (N := (rr (Int32.ofNat k) j).toNatClampNeg) dX7_findNames_110 rfl (vp_nn (rr_vp (vp_k hk8) j)) (vl4 (rr_vp (vp_k hk8) j)) ?_
                        refine z_aload_n 1 dX7_findNames_111 rfl rfl ?_
                        refine y_getR fX7_7 dX7_findNames_112 rfl rfl ?_
                        refine z_bipush 56 dX7_findNames_115 (by decide) ?_
                        refine z_iload_n 3 dX7_findNames_117 rfl rfl ?_
                        refine z_iadd dX7_findNames_118 ?_
                        refine y_wld (X := 0) (o := 56) (d := cc) dX7_findNames_119 (wiB (hcc ▸ ahd_vp hD7 hk2)) (wb (by decide) (hcc ▸ ahd_vp hD7 hk2) (by decide)) ?_
                        refine z_iload_n 4 dX7_findNames_120 rfl rfl ?_
                        refine z_icmp_eq 128 dX7_findNames_121 (by decide) (fun c_33 => ?_) (fun c_33 => ?_)
                        · refine z_iconst 0 dX7_findNames_128 (by decide) ?_
                          refine y_Si [_] _ kX7_157 (c7_one (by first | exact rlf01 _ _ _ | exact roff01 _ _ _ _ _ | decide)) dX7_findNames_129 rfl rfl (Nat.le_of_ble_eq_true rfl) (Nat.le_of_ble_eq_true rfl) ⟨Nat.zero_le _, Nat.zero_le _⟩ ?_
                          refine z_iadd dX7_findNames_132 ?_
                          refine z_topi (fun v_34 e_34 => ?_)
                          refine z_istore (lv' := [(5, .int v_34), (4, .int (rr (Int32.ofNat k) j)), (0, .ref 57), (1, .int (Int32.ofNat k)), (2, .int cc), (3, .int (Int32.ofNat j))]) dX7_findNames_133 (Nat.le_of_ble_eq_true rfl) rfl ?_
                          refine z_aload_n 2 dX7_findNames_135 rfl rfl ?_
                          refine y_getR fX7_60 dX7_findNames_136 rfl rfl ?_
                          refine z_iload_n 3 dX7_findNames_139 rfl rfl ?_
                          refine z_dup2 dX7_findNames_140 rfl rfl ?_
                          refine y_ald (N := k) dX7_findNames_141 rfl rfl (by omega) ?_
                          refine z_aload_n 2 dX7_findNames_142 rfl rfl ?_
                          refine y_getR fX7_60 dX7_findNames_143 rfl rfl ?_
                          refine z_iload 1 dX7_findNames_146 rfl ?_
                          refine y_ald (N := (rr (Int32.ofNat k) j).toNatClampNeg) dX7_findNames_148 rfl (vp_nn (rr_vp (vp_k hk8) j)) (vl4 (rr_vp (vp_k hk8) j)) ?_
                          refine z_iadd dX7_findNames_149 ?_
                          refine y_ast (N := k) dX7_findNames_150 rfl rfl (by omega) ?_
                          refine z_aload_n 2 dX7_findNames_151 rfl rfl ?_
                          refine y_getR fX7_63 dX7_findNames_152 rfl rfl ?_
                          refine z_iload_n 3 dX7_findNames_155 rfl rfl ?_
                          refine z_iload 0 dX7_findNames_156 rfl ?_
                          refine z_aload_n 2 dX7_findNames_158 rfl rfl ?_
                          refine y_getR fX7_63 dX7_findNames_159 rfl rfl ?_
                          refine z_iload_n 3 dX7_findNames_162 rfl rfl ?_
                          refine y_ald (N := k) dX7_findNames_163 rfl rfl (by omega) ?_
                          refine z_icmp_ge 172 dX7_findNames_164 (by decide) (fun c_35 => ?_) (fun c_35 => ?_)
                          · refine z_aload_n 2 dX7_findNames_172 rfl rfl ?_
                            refine y_getR fX7_63 dX7_findNames_173 rfl rfl ?_
                            refine z_iload_n 3 dX7_findNames_176 rfl rfl ?_
                            refine y_ald (N := k) dX7_findNames_177 rfl rfl (by omega) ?_
                            refine y_ast (N := k) dX7_findNames_178 rfl rfl (by omega) ?_
                            obtain ⟨v_36, e_36⟩ : ∃ y : Int32, y = (Int32.ofNat j) + 1 := ⟨_, rfl⟩
                            refine z_iinc (lv' := [(3, .int v_36), (5, .int v_34), (4, .int (rr (Int32.ofNat k) j)), (0, .ref 57), (1, .int (Int32.ofNat k)), (2, .int cc)]) 5 v_36 dX7_findNames_179 rfl (by rw [e_36]; rfl) (Nat.le_of_ble_eq_true rfl) rfl ?_
                            refine z_goto 57 dX7_findNames_182 (by decide) ?_
                            obtain rfl : v_36 = Int32.ofNat (j + 1) := e_36.trans (nat_succ j)
                            refine z_sub [3,4,5,0] rfl ?_
                            exact ih57 (j + 1) _ _ (by omega) hcc hk8 hk2 (hr2.trans (congrArg (sfold _ q (j + 1)) (by simp only [rfn, rfn1, rfn2, rfv, hcc, c_26, c_27, c_29, c_31, c_33, c_35, eq_self, not_true_eq_false, not_false_eq_true, if_true, if_false, reduceIte, ← e_34]))) (by first | exact hw2 | exact hw2.tr (W7n.m1.tr W7n.m2))
                          · refine z_iload 0 dX7_findNames_167 rfl ?_
                            refine z_goto 178 dX7_findNames_169 (by decide) ?_
                            refine y_ast (N := k) dX7_findNames_178 rfl rfl (by omega) ?_
                            obtain ⟨v_37, e_37⟩ : ∃ y : Int32, y = (Int32.ofNat j) + 1 := ⟨_, rfl⟩
                            refine z_iinc (lv' := [(3, .int v_37), (5, .int v_34), (4, .int (rr (Int32.ofNat k) j)), (0, .ref 57), (1, .int (Int32.ofNat k)), (2, .int cc)]) 5 v_37 dX7_findNames_179 rfl (by rw [e_37]; rfl) (Nat.le_of_ble_eq_true rfl) rfl ?_
                            refine z_goto 57 dX7_findNames_182 (by decide) ?_
                            obtain rfl : v_37 = Int32.ofNat (j + 1) := e_37.trans (nat_succ j)
                            refine z_sub [3,4,5,0] rfl ?_
                            exact ih57 (j + 1) _ _ (by omega) hcc hk8 hk2 (hr2.trans (congrArg (sfold _ q (j + 1)) (by simp only [rfn, rfn1, rfn2, rfv, hcc, c_26, c_27, c_29, c_31, c_33, c_35, eq_self, not_true_eq_false, not_false_eq_true, if_true, if_false, reduceIte, ← e_34]))) (by first | exact hw2 | exact hw2.tr (W7n.m1.tr W7n.m2))
                        · refine z_iconst 1 dX7_findNames_124 (by decide) ?_
                          refine z_goto 129 dX7_findNames_125 (by decide) ?_
                          refine y_Si [_] _ kX7_157 (c7_one (by first | exact rlf01 _ _ _ | exact roff01 _ _ _ _ _ | decide)) dX7_findNames_129 rfl rfl (Nat.le_of_ble_eq_true rfl) (Nat.le_of_ble_eq_true rfl) ⟨Nat.zero_le _, Nat.zero_le _⟩ ?_
                          refine z_iadd dX7_findNames_132 ?_
                          refine z_topi (fun v_38 e_38 => ?_)
                          refine z_istore (lv' := [(5, .int v_38), (4, .int (rr (Int32.ofNat k) j)), (0, .ref 57), (1, .int (Int32.ofNat k)), (2, .int cc), (3, .int (Int32.ofNat j))]) dX7_findNames_133 (Nat.le_of_ble_eq_true rfl) rfl ?_
                          refine z_aload_n 2 dX7_findNames_135 rfl rfl ?_
                          refine y_getR fX7_60 dX7_findNames_136 rfl rfl ?_
                          refine z_iload_n 3 dX7_findNames_139 rfl rfl ?_
                          refine z_dup2 dX7_findNames_140 rfl rfl ?_
                          refine y_ald (N := k) dX7_findNames_141 rfl rfl (by omega) ?_
                          refine z_aload_n 2 dX7_findNames_142 rfl rfl ?_
                          refine y_getR fX7_60 dX7_findNames_143 rfl rfl ?_
                          refine z_iload 1 dX7_findNames_146 rfl ?_
                          refine y_ald (N := (rr (Int32.ofNat k) j).toNatClampNeg) dX7_findNames_148 rfl (vp_nn (rr_vp (vp_k hk8) j)) (vl4 (rr_vp (vp_k hk8) j)) ?_
                          refine z_iadd dX7_findNames_149 ?_
                          refine y_ast (N := k) dX7_findNames_150 rfl rfl (by omega) ?_
                          refine z_aload_n 2 dX7_findNames_151 rfl rfl ?_
                          refine y_getR fX7_63 dX7_findNames_152 rfl rfl ?_
                          refine z_iload_n 3 dX7_findNames_155 rfl rfl ?_
                          refine z_iload 0 dX7_findNames_156 rfl ?_
                          refine z_aload_n 2 dX7_findNames_158 rfl rfl ?_
                          refine y_getR fX7_63 dX7_findNames_159 rfl rfl ?_
                          refine z_iload_n 3 dX7_findNames_162 rfl rfl ?_
                          refine y_ald (N := k) dX7_findNames_163 rfl rfl (by omega) ?_
                          refine z_icmp_ge 172 dX7_findNames_164 (by decide) (fun c_39 => ?_) (fun c_39 => ?_)
                          · refine z_aload_n 2 dX7_findNames_172 rfl rfl ?_
                            refine y_getR fX7_63 dX7_findNames_173 rfl rfl ?_
                            refine z_iload_n 3 dX7_findNames_176 rfl rfl ?_
                            refine y_ald (N := k) dX7_findNames_177 rfl rfl (by omega) ?_
                            refine y_ast (N := k) dX7_findNames_178 rfl rfl (by omega) ?_
                            obtain ⟨v_40, e_40⟩ : ∃ y : Int32, y = (Int32.ofNat j) + 1 := ⟨_, rfl⟩
                            refine z_iinc (lv' := [(3, .int v_40), (5, .int v_38), (4, .int (rr (Int32.ofNat k) j)), (0, .ref 57), (1, .int (Int32.ofNat k)), (2, .int cc)]) 5 v_40 dX7_findNames_179 rfl (by rw [e_40]; rfl) (Nat.le_of_ble_eq_true rfl) rfl ?_
                            refine z_goto 57 dX7_findNames_182 (by decide) ?_
                            obtain rfl : v_40 = Int32.ofNat (j + 1) := e_40.trans (nat_succ j)
                            refine z_sub [3,4,5,0] rfl ?_
                            exact ih57 (j + 1) _ _ (by omega) hcc hk8 hk2 (hr2.trans (congrArg (sfold _ q (j + 1)) (by simp only [rfn, rfn1, rfn2, rfv, hcc, c_26, c_27, c_29, c_31, c_33, c_39, eq_self, not_true_eq_false, not_false_eq_true, if_true, if_false, reduceIte, ← e_38]))) (by first | exact hw2 | exact hw2.tr (W7n.m1.tr W7n.m2))
                          · refine z_iload 0 dX7_findNames_167 rfl ?_
                            refine z_goto 178 dX7_findNames_169 (by decide) ?_
                            refine y_ast (N := k) dX7_findNames_178 rfl rfl (by omega) ?_
                            obtain ⟨v_41, e_41⟩ : ∃ y : Int32, y = (Int32.ofNat j) + 1 := ⟨_, rfl⟩
                            refine z_iinc (lv' := [(3, .int v_41), (5, .int v_38), (4, .int (rr (Int32.ofNat k) j)), (0, .ref 57), (1, .int (Int32.ofNat k)), (2, .int cc)]) 5 v_41 dX7_findNames_179 rfl (by rw [e_41]; rfl) (Nat.le_of_ble_eq_true rfl) rfl ?_
                            refine z_goto 57 dX7_findNames_182 (by decide) ?_
                            obtain rfl : v_41 = Int32.ofNat (j + 1) := e_41.trans (nat_succ j)
                            refine z_sub [3,4,5,0] rfl ?_
                            exact ih57 (j + 1) _ _ (by omega) hcc hk8 hk2 (hr2.trans (congrArg (sfold _ q (j + 1)) (by simp only [rfn, rfn1, rfn2, rfv, hcc, c_26, c_27, c_29, c_31, c_33, c_39, eq_self, not_true_eq_false, not_false_eq_true, if_true, if_false, reduceIte, ← e_38]))) (by first | exact hw2 | exact hw2.tr (W7n.m1.tr W7n.m2))
            refine z_sub [2,3,1,0] rfl ?_
            exact loop57 (D) 0 _ _ (by omega) (by simp only [e_3]) hk8 hk2 (congrArg (sfold (rfn D k) D 0) (by first | (simp [rfo0, c_2, c_4, c_5, e_3]; done) | exact absurd (by assumption) (by assumption : ¬ Int32.ofNat k = 0))) (hw.tr (W7n.m1.tr W7n.m2))
        · refine z_iconst 1 dX7_findNames_29 (by decide) ?_
          refine z_goto 34 dX7_findNames_30 (by decide) ?_
          refine y_Si [_] _ kX7_157 (c7_one (by first | exact rlf01 _ _ _ | exact roff01 _ _ _ _ _ | decide)) dX7_findNames_34 rfl rfl (Nat.le_of_ble_eq_true rfl) (Nat.le_of_ble_eq_true rfl) ⟨Nat.zero_le _, Nat.zero_le _⟩ ?_
          refine y_ast (N := k) dX7_findNames_37 rfl rfl (by omega) ?_
          refine z_aload_n 1 dX7_findNames_38 rfl rfl ?_
          refine y_getR fX7_63 dX7_findNames_39 rfl rfl ?_
          refine z_iload_n 2 dX7_findNames_42 rfl rfl ?_
          refine z_iload_n 2 dX7_findNames_43 rfl rfl ?_
          refine z_if_ne 51 dX7_findNames_44 (by decide) (fun c_42 => ?_) (fun c_42 => ?_)
          · refine z_sipush 999 dX7_findNames_51 (by decide) ?_
            refine y_ast (N := k) dX7_findNames_54 rfl rfl (by omega) ?_
            refine z_iconst 0 dX7_findNames_55 (by decide) ?_
            refine z_istore_n (lv' := [(3, .int 0), (2, .int v_3), (0, .ref 57), (1, .int (Int32.ofNat k))]) dX7_findNames_56 rfl (Nat.le_of_ble_eq_true rfl) rfl ?_
            have loop57 : ∀ (q : Nat) (j : Nat) (mm2 : zmem) (cc : Int32), j + q = D → rahd D (Int32.ofNat k) = cc → k < 128 → k < 2 ^ D → rfo D k mm = sfold (rfn D k) q j mm2 → W7n m mm2 → Z (zMB (Q0 (rnames m D)) 2 MX7_findNames) 57 [(0, .ref 57), (1, .int (Int32.ofNat k)), (2, .int cc), (3, .int (Int32.ofNat j))] [] (hp mm2) 0 0 := by
              intro q
              induction q with
              | zero =>
                intro j mm2 cc hj hcc hk8 hk2 hr2 hw2
                refine z_iload_n 3 dX7_findNames_57 rfl rfl ?_
                refine z_aload_n 0 dX7_findNames_58 rfl rfl ?_
                refine y_getR fX7_36 dX7_findNames_59 rfl rfl ?_
                refine z_iconst 1 dX7_findNames_62 (by decide) ?_
                refine y_ald (N := 1) dX7_findNames_63 rfl rfl (by decide) ?_
                refine z_icmp_ge 185 dX7_findNames_64 (by decide) (fun c_43 => ?_) (fun c_43 => ?_)
                · obtain ⟨v_44, e_44⟩ : ∃ y : Int32, y = (Int32.ofNat k) + 1 := ⟨_, rfl⟩
                  refine z_iinc (lv' := [(1, .int v_44), (0, .ref 57), (2, .int cc), (3, .int (Int32.ofNat j))]) 1 v_44 dX7_findNames_185 rfl (by rw [e_44]; rfl) (Nat.le_of_ble_eq_true rfl) rfl ?_
                  refine z_goto 2 dX7_findNames_188 (by decide) ?_
                  obtain rfl : v_44 = Int32.ofNat (k + 1) := e_44.trans (nat_succ k)
                  refine z_sub [1,0] rfl ?_
                  exact ih2 (k + 1) _ (by omega) (hr.trans (congrArg (sfold _ n (k + 1)) (by rw [hr2]; first | rfl | (exact sfold_id (fun j s => by simp [rfn, c_2, c_4, c_42, c_43]) _ _ _)))) hw2
                · exact (dz rfl ((hI.n hw2).1) (by omega) (by omega) c_43).elim
              | succ q ih57 =>
                intro j mm2 cc hj hcc hk8 hk2 hr2 hw2
                refine z_iload_n 3 dX7_findNames_57 rfl rfl ?_
                refine z_aload_n 0 dX7_findNames_58 rfl rfl ?_
                refine y_getR fX7_36 dX7_findNames_59 rfl rfl ?_
                refine z_iconst 1 dX7_findNames_62 (by decide) ?_
                refine y_ald (N := 1) dX7_findNames_63 rfl rfl (by decide) ?_
                refine z_icmp_ge 185 dX7_findNames_64 (by decide) (fun c_45 => ?_) (fun c_45 => ?_)
                · exact (ds rfl ((hI.n hw2).1) (by omega) (by omega) c_45).elim
                · refine z_iload_n 1 dX7_findNames_67 rfl rfl ?_
                  refine z_if_le 185 dX7_findNames_68 (by decide) (fun c_46 => ?_) (fun c_46 => ?_)
                  · obtain ⟨v_47, e_47⟩ : ∃ y : Int32, y = (Int32.ofNat k) + 1 := ⟨_, rfl⟩
                    refine z_iinc (lv' := [(1, .int v_47), (0, .ref 57), (2, .int cc), (3, .int (Int32.ofNat j))]) 1 v_47 dX7_findNames_185 rfl (by rw [e_47]; rfl) (Nat.le_of_ble_eq_true rfl) rfl ?_
                    refine z_goto 2 dX7_findNames_188 (by decide) ?_
                    obtain rfl : v_47 = Int32.ofNat (k + 1) := e_47.trans (nat_succ k)
                    refine z_sub [1,0] rfl ?_
                    exact ih2 (k + 1) _ (by omega) (hr.trans (congrArg (sfold _ n (k + 1)) (by rw [hr2]; first | rfl | (exact sfold_id (fun j s => by simp [rfn, c_2, c_4, c_42, c_45, c_46]) _ _ _)))) hw2
                  · refine z_iload_n 1 dX7_findNames_71 rfl rfl ?_
                    refine z_iload_n 3 dX7_findNames_72 rfl rfl ?_
                    refine y_Si [_, _] _ kX7_150 c7_has dX7_findNames_73 rfl rfl (Nat.le_of_ble_eq_true rfl) (Nat.le_of_ble_eq_true rfl) ⟨Nat.zero_le _, Nat.zero_le _⟩ ?_
                    refine z_if_eq 179 dX7_findNames_76 (by decide) (fun c_48 => ?_) (fun c_48 => ?_)
                    · obtain ⟨v_49, e_49⟩ : ∃ y : Int32, y = (Int32.ofNat j) + 1 := ⟨_, rfl⟩
                      refine z_iinc (lv' := [(3, .int v_49), (0, .ref 57), (1, .int (Int32.ofNat k)), (2, .int cc)]) 3 v_49 dX7_findNames_179 rfl (by rw [e_49]; rfl) (Nat.le_of_ble_eq_true rfl) rfl ?_
                      refine z_goto 57 dX7_findNames_182 (by decide) ?_
                      obtain rfl : v_49 = Int32.ofNat (j + 1) := e_49.trans (nat_succ j)
                      refine z_sub [1,2,3,0] rfl ?_
                      exact ih57 (j + 1) _ _ (by omega) hcc hk8 hk2 (hr2.trans (congrArg (sfold _ q (j + 1)) (by simp only [rfn, rfn1, rfn2, rfv, hcc, c_45, c_46, c_48, eq_self, not_true_eq_false, not_false_eq_true, if_true, if_false, reduceIte]))) (by first | exact hw2 | exact hw2.tr (W7n.m1.tr W7n.m2))
                    · refine z_aload_n 0 dX7_findNames_79 rfl rfl ?_
                      refine y_getR fX7_7 dX7_findNames_80 rfl rfl ?_
                      refine z_bipush 64 dX7_findNames_83 (by decide) ?_
                      refine z_iload_n 2 dX7_findNames_85 rfl rfl ?_
                      refine z_iadd dX7_findNames_86 ?_
                      refine y_wld (X := 0) (o := 64) (d := cc) dX7_findNames_87 (wiB (hcc ▸ ahd_vp hD7 hk2)) (wb (by decide) (hcc ▸ ahd_vp hD7 hk2) (by decide)) ?_
                      refine z_iload_n 3 dX7_findNames_88 rfl rfl ?_
                      refine y_Si [_, _] _ kX7_150 c7_has dX7_findNames_89 rfl rfl (Nat.le_of_ble_eq_true rfl) (Nat.le_of_ble_eq_true rfl) ⟨Nat.zero_le _, Nat.zero_le _⟩ ?_
                      refine z_if_eq 179 dX7_findNames_92 (by decide) (fun c_50 => ?_) (fun c_50 => ?_)
                      · obtain ⟨v_51, e_51⟩ : ∃ y : Int32, y = (Int32.ofNat j) + 1 := ⟨_, rfl⟩
                        refine z_iinc (lv' := [(3, .int v_51), (0, .ref 57), (1, .int (Int32.ofNat k)), (2, .int cc)]) 3 v_51 dX7_findNames_179 rfl (by rw [e_51]; rfl) (Nat.le_of_ble_eq_true rfl) rfl ?_
                        refine z_goto 57 dX7_findNames_182 (by decide) ?_
                        obtain rfl : v_51 = Int32.ofNat (j + 1) := e_51.trans (nat_succ j)
                        refine z_sub [1,2,3,0] rfl ?_
                        exact ih57 (j + 1) _ _ (by omega) hcc hk8 hk2 (hr2.trans (congrArg (sfold _ q (j + 1)) (by simp only [rfn, rfn1, rfn2, rfv, hcc, c_45, c_46, c_48, c_50, eq_self, not_true_eq_false, not_false_eq_true, if_true, if_false, reduceIte]))) (by first | exact hw2 | exact hw2.tr (W7n.m1.tr W7n.m2))
                      · refine z_iload_n 1 dX7_findNames_95 rfl rfl ?_
                        refine z_iconst 1 dX7_findNames_96 (by decide) ?_
                        refine z_iload_n 3 dX7_findNames_97 rfl rfl ?_
                        refine z_ishl dX7_findNames_98 ?_
                        refine z_iconst (-1) dX7_findNames_99 (by decide) ?_
                        refine z_ixor dX7_findNames_100 ?_
                        refine z_iand dX7_findNames_101 ?_
                        refine z_itop (y := (rr (Int32.ofNat k) j)) rfl ?_
                        refine z_istore (lv' := [(4, .int (rr (Int32.ofNat k) j)), (0, .ref 57), (1, .int (Int32.ofNat k)), (2, .int cc), (3, .int (Int32.ofNat j))]) dX7_findNames_102 (Nat.le_of_ble_eq_true rfl) rfl ?_
                        refine z_aload_n 1 dX7_findNames_104 rfl rfl ?_
                        refine y_getR fX7_63 dX7_findNames_105 rfl rfl ?_
                        refine z_iload 0 dX7_findNames_108 rfl ?_
                        refine y_ald (N := (rr (Int32.ofNat k) j).toNatClampNeg) dX7_findNames_110 rfl (vp_nn (rr_vp (vp_k hk8) j)) (vl4 (rr_vp (vp_k hk8) j)) ?_
                        refine z_aload_n 1 dX7_findNames_111 rfl rfl ?_
                        refine y_getR fX7_7 dX7_findNames_112 rfl rfl ?_
                        refine z_bipush 56 dX7_findNames_115 (by decide) ?_
                        refine z_iload_n 3 dX7_findNames_117 rfl rfl ?_
                        refine z_iadd dX7_findNames_118 ?_
                        refine y_wld (X := 0) (o := 56) (d := cc) dX7_findNames_119 (wiB (hcc ▸ ahd_vp hD7 hk2)) (wb (by decide) (hcc ▸ ahd_vp hD7 hk2) (by decide)) ?_
                        refine z_iload_n 4 dX7_findNames_120 rfl rfl ?_
                        refine z_icmp_eq 128 dX7_findNames_121 (by decide) (fun c_52 => ?_) (fun c_52 => ?_)
                        · refine z_iconst 0 dX7_findNames_128 (by decide) ?_
                          refine y_Si [_] _ kX7_157 (c7_one (by first | exact rlf01 _ _ _ | exact roff01 _ _ _ _ _ | decide)) dX7_findNames_129 rfl rfl (Nat.le_of_ble_eq_true rfl) (Nat.le_of_ble_eq_true rfl) ⟨Nat.zero_le _, Nat.zero_le _⟩ ?_
                          refine z_iadd dX7_findNames_132 ?_
                          refine z_topi (fun v_53 e_53 => ?_)
                          refine z_istore (lv' := [(5, .int v_53), (4, .int (rr (Int32.ofNat k) j)), (0, .ref 57), (1, .int (Int32.ofNat k)), (2, .int cc), (3, .int (Int32.ofNat j))]) dX7_findNames_133 (Nat.le_of_ble_eq_true rfl) rfl ?_
                          refine z_aload_n 2 dX7_findNames_135 rfl rfl ?_
                          refine y_getR fX7_60 dX7_findNames_136 rfl rfl ?_
                          refine z_iload_n 3 dX7_findNames_139 rfl rfl ?_
                          refine z_dup2 dX7_findNames_140 rfl rfl ?_
                          refine y_ald (N := k) dX7_findNames_141 rfl rfl (by omega) ?_
                          refine z_aload_n 2 dX7_findNames_142 rfl rfl ?_
                          refine y_getR fX7_60 dX7_findNames_143 rfl rfl ?_
                          refine z_iload 1 dX7_findNames_146 rfl ?_
                          refine y_ald (N := (rr (Int32.ofNat k) j).toNatClampNeg) dX7_findNames_148 rfl (vp_nn (rr_vp (vp_k hk8) j)) (vl4 (rr_vp (vp_k hk8) j)) ?_
                          refine z_iadd dX7_findNames_149 ?_
                          refine y_ast (N := k) dX7_findNames_150 rfl rfl (by omega) ?_
                          refine z_aload_n 2 dX7_findNames_151 rfl rfl ?_
                          refine y_getR fX7_63 dX7_findNames_152 rfl rfl ?_
                          refine z_iload_n 3 dX7_findNames_155 rfl rfl ?_
                          refine z_iload 0 dX7_findNames_156 rfl ?_
                          refine z_aload_n 2 dX7_findNames_158 rfl rfl ?_
                          refine y_getR fX7_63 dX7_findNames_159 rfl rfl ?_
                          refine z_iload_n 3 dX7_findNames_162 rfl rfl ?_
                          refine y_ald (N := k) dX7_findNames_163 rfl rfl (by omega) ?_
                          refine z_icmp_ge 172 dX7_findNames_164 (by decide) (fun c_54 => ?_) (fun c_54 => ?_)
                          · refine z_aload_n 2 dX7_findNames_172 rfl rfl ?_
                            refine y_getR fX7_63 dX7_findNames_173 rfl rfl ?_
                            refine z_iload_n 3 dX7_findNames_176 rfl rfl ?_
                            refine y_ald (N := k) dX7_findNames_177 rfl rfl (by omega) ?_
                            refine y_ast (N := k) dX7_findNames_178 rfl rfl (by omega) ?_
                            obtain ⟨v_55, e_55⟩ : ∃ y : Int32, y = (Int32.ofNat j) + 1 := ⟨_, rfl⟩
                            refine z_iinc (lv' := [(3, .int v_55), (5, .int v_53), (4, .int (rr (Int32.ofNat k) j)), (0, .ref 57), (1, .int (Int32.ofNat k)), (2, .int cc)]) 5 v_55 dX7_findNames_179 rfl (by rw [e_55]; rfl) (Nat.le_of_ble_eq_true rfl) rfl ?_
                            refine z_goto 57 dX7_findNames_182 (by decide) ?_
                            obtain rfl : v_55 = Int32.ofNat (j + 1) := e_55.trans (nat_succ j)
                            refine z_sub [3,4,5,0] rfl ?_
                            exact ih57 (j + 1) _ _ (by omega) hcc hk8 hk2 (hr2.trans (congrArg (sfold _ q (j + 1)) (by simp only [rfn, rfn1, rfn2, rfv, hcc, c_45, c_46, c_48, c_50, c_52, c_54, eq_self, not_true_eq_false, not_false_eq_true, if_true, if_false, reduceIte, ← e_53]))) (by first | exact hw2 | exact hw2.tr (W7n.m1.tr W7n.m2))
                          · refine z_iload 0 dX7_findNames_167 rfl ?_
                            refine z_goto 178 dX7_findNames_169 (by decide) ?_
                            refine y_ast (N := k) dX7_findNames_178 rfl rfl (by omega) ?_
                            obtain ⟨v_56, e_56⟩ : ∃ y : Int32, y = (Int32.ofNat j) + 1 := ⟨_, rfl⟩
                            refine z_iinc (lv' := [(3, .int v_56), (5, .int v_53), (4, .int (rr (Int32.ofNat k) j)), (0, .ref 57), (1, .int (Int32.ofNat k)), (2, .int cc)]) 5 v_56 dX7_findNames_179 rfl (by rw [e_56]; rfl) (Nat.le_of_ble_eq_true rfl) rfl ?_
                            refine z_goto 57 dX7_findNames_182 (by decide) ?_
                            obtain rfl : v_56 = Int32.ofNat (j + 1) := e_56.trans (nat_succ j)
                            refine z_sub [3,4,5,0] rfl ?_
                            exact ih57 (j + 1) _ _ (by omega) hcc hk8 hk2 (hr2.trans (congrArg (sfold _ q (j + 1)) (by simp only [rfn, rfn1, rfn2, rfv, hcc, c_45, c_46, c_48, c_50, c_52, c_54, eq_self, not_true_eq_false, not_false_eq_true, if_true, if_false, reduceIte, ← e_53]))) (by first | exact hw2 | exact hw2.tr (W7n.m1.tr W7n.m2))
                        · refine z_iconst 1 dX7_findNames_124 (by decide) ?_
                          refine z_goto 129 dX7_findNames_125 (by decide) ?_
                          refine y_Si [_] _ kX7_157 (c7_one (by first | exact rlf01 _ _ _ | exact roff01 _ _ _ _ _ | decide)) dX7_findNames_129 rfl rfl (Nat.le_of_ble_eq_true rfl) (Nat.le_of_ble_eq_true rfl) ⟨Nat.zero_le _, Nat.zero_le _⟩ ?_
                          refine z_iadd dX7_findNames_132 ?_
                          refine z_topi (fun v_57 e_57 => ?_)
                          refine z_istore (lv' := [(5, .int v_57), (4, .int (rr (Int32.ofNat k) j)), (0, .ref 57), (1, .int (Int32.ofNat k)), (2, .int cc), (3, .int (Int32.ofNat j))]) dX7_findNames_133 (Nat.le_of_ble_eq_true rfl) rfl ?_
                          refine z_aload_n 2 dX7_findNames_135 rfl rfl ?_
                          refine y_getR fX7_60 dX7_findNames_136 rfl rfl ?_
                          refine z_iload_n 3 dX7_findNames_139 rfl rfl ?_
                          refine z_dup2 dX7_findNames_140 rfl rfl ?_
                          refine y_ald (N := k) dX7_findNames_141 rfl rfl (by omega) ?_
                          refine z_aload_n 2 dX7_findNames_142 rfl rfl ?_
                          refine y_getR fX7_60 dX7_findNames_143 rfl rfl ?_
                          refine z_iload 1 dX7_findNames_146 rfl ?_
                          refine y_ald (N := (rr (Int32.ofNat k) j).toNatClampNeg) dX7_findNames_148 rfl (vp_nn (rr_vp (vp_k hk8) j)) (vl4 (rr_vp (vp_k hk8) j)) ?_
                          refine z_iadd dX7_findNames_149 ?_
                          refine y_ast (N := k) dX7_findNames_150 rfl rfl (by omega) ?_
                          refine z_aload_n 2 dX7_findNames_151 rfl rfl ?_
                          refine y_getR fX7_63 dX7_findNames_152 rfl rfl ?_
                          refine z_iload_n 3 dX7_findNames_155 rfl rfl ?_
                          refine z_iload 0 dX7_findNames_156 rfl ?_
                          refine z_aload_n 2 dX7_findNames_158 rfl rfl ?_
                          refine y_getR fX7_63 dX7_findNames_159 rfl rfl ?_
                          refine z_iload_n 3 dX7_findNames_162 rfl rfl ?_
                          refine y_ald (N := k) dX7_findNames_163 rfl rfl (by omega) ?_
                          refine z_icmp_ge 172 dX7_findNames_164 (by decide) (fun c_58 => ?_) (fun c_58 => ?_)
                          · refine z_aload_n 2 dX7_findNames_172 rfl rfl ?_
                            refine y_getR fX7_63 dX7_findNames_173 rfl rfl ?_
                            refine z_iload_n 3 dX7_findNames_176 rfl rfl ?_
                            refine y_ald (N := k) dX7_findNames_177 rfl rfl (by omega) ?_
                            refine y_ast (N := k) dX7_findNames_178 rfl rfl (by omega) ?_
                            obtain ⟨v_59, e_59⟩ : ∃ y : Int32, y = (Int32.ofNat j) + 1 := ⟨_, rfl⟩
                            refine z_iinc (lv' := [(3, .int v_59), (5, .int v_57), (4, .int (rr (Int32.ofNat k) j)), (0, .ref 57), (1, .int (Int32.ofNat k)), (2, .int cc)]) 5 v_59 dX7_findNames_179 rfl (by rw [e_59]; rfl) (Nat.le_of_ble_eq_true rfl) rfl ?_
                            refine z_goto 57 dX7_findNames_182 (by decide) ?_
                            obtain rfl : v_59 = Int32.ofNat (j + 1) := e_59.trans (nat_succ j)
                            refine z_sub [3,4,5,0] rfl ?_
                            exact ih57 (j + 1) _ _ (by omega) hcc hk8 hk2 (hr2.trans (congrArg (sfold _ q (j + 1)) (by simp only [rfn, rfn1, rfn2, rfv, hcc, c_45, c_46, c_48, c_50, c_52, c_58, eq_self, not_true_eq_false, not_false_eq_true, if_true, if_false, reduceIte, ← e_57]))) (by first | exact hw2 | exact hw2.tr (W7n.m1.tr W7n.m2))
                          · refine z_iload 0 dX7_findNames_167 rfl ?_
                            refine z_goto 178 dX7_findNames_169 (by decide) ?_
                            refine y_ast (N := k) dX7_findNames_178 rfl rfl (by omega) ?_
                            obtain ⟨v_60, e_60⟩ : ∃ y : Int32, y = (Int32.ofNat j) + 1 := ⟨_, rfl⟩
                            refine z_iinc (lv' := [(3, .int v_60), (5, .int v_57), (4, .int (rr (Int32.ofNat k) j)), (0, .ref 57), (1, .int (Int32.ofNat k)), (2, .int cc)]) 5 v_60 dX7_findNames_179 rfl (by rw [e_60]; rfl) (Nat.le_of_ble_eq_true rfl) rfl ?_
                            refine z_goto 57 dX7_findNames_182 (by decide) ?_
                            obtain rfl : v_60 = Int32.ofNat (j + 1) := e_60.trans (nat_succ j)
                            refine z_sub [3,4,5,0] rfl ?_
                            exact ih57 (j + 1) _ _ (by omega) hcc hk8 hk2 (hr2.trans (congrArg (sfold _ q (j + 1)) (by simp only [rfn, rfn1, rfn2, rfv, hcc, c_45, c_46, c_48, c_50, c_52, c_58, eq_self, not_true_eq_false, not_false_eq_true, if_true, if_false, reduceIte, ← e_57]))) (by first | exact hw2 | exact hw2.tr (W7n.m1.tr W7n.m2))
            refine z_sub [2,3,1,0] rfl ?_
            exact loop57 (D) 0 _ _ (by omega) (by simp only [e_3]) hk8 hk2 (congrArg (sfold (rfn D k) D 0) (by first | (simp [rfo0, c_2, c_4, c_42, e_3]; done) | exact absurd (by assumption) (by assumption : ¬ Int32.ofNat k = 0))) (hw.tr (W7n.m1.tr W7n.m2))
          · refine z_iconst 0 dX7_findNames_47 (by decide) ?_
            refine z_goto 54 dX7_findNames_48 (by decide) ?_
            refine y_ast (N := k) dX7_findNames_54 rfl rfl (by omega) ?_
            refine z_iconst 0 dX7_findNames_55 (by decide) ?_
            refine z_istore_n (lv' := [(3, .int 0), (2, .int v_3), (0, .ref 57), (1, .int (Int32.ofNat k))]) dX7_findNames_56 rfl (Nat.le_of_ble_eq_true rfl) rfl ?_
            have loop57 : ∀ (q : Nat) (j : Nat) (mm2 : zmem) (cc : Int32), j + q = D → rahd D (Int32.ofNat k) = cc → k < 128 → k < 2 ^ D → rfo D k mm = sfold (rfn D k) q j mm2 → W7n m mm2 → Z (zMB (Q0 (rnames m D)) 2 MX7_findNames) 57 [(0, .ref 57), (1, .int (Int32.ofNat k)), (2, .int cc), (3, .int (Int32.ofNat j))] [] (hp mm2) 0 0 := by
              intro q
              induction q with
              | zero =>
                intro j mm2 cc hj hcc hk8 hk2 hr2 hw2
                refine z_iload_n 3 dX7_findNames_57 rfl rfl ?_
                refine z_aload_n 0 dX7_findNames_58 rfl rfl ?_
                refine y_getR fX7_36 dX7_findNames_59 rfl rfl ?_
                refine z_iconst 1 dX7_findNames_62 (by decide) ?_
                refine y_ald (N := 1) dX7_findNames_63 rfl rfl (by decide) ?_
                refine z_icmp_ge 185 dX7_findNames_64 (by decide) (fun c_61 => ?_) (fun c_61 => ?_)
                · obtain ⟨v_62, e_62⟩ : ∃ y : Int32, y = (Int32.ofNat k) + 1 := ⟨_, rfl⟩
                  refine z_iinc (lv' := [(1, .int v_62), (0, .ref 57), (2, .int cc), (3, .int (Int32.ofNat j))]) 1 v_62 dX7_findNames_185 rfl (by rw [e_62]; rfl) (Nat.le_of_ble_eq_true rfl) rfl ?_
                  refine z_goto 2 dX7_findNames_188 (by decide) ?_
                  obtain rfl : v_62 = Int32.ofNat (k + 1) := e_62.trans (nat_succ k)
                  refine z_sub [1,0] rfl ?_
                  exact ih2 (k + 1) _ (by omega) (hr.trans (congrArg (sfold _ n (k + 1)) (by rw [hr2]; first | rfl | (exact sfold_id (fun j s => by simp [rfn, c_2, c_4, c_42, c_61]) _ _ _)))) hw2
                · exact (dz rfl ((hI.n hw2).1) (by omega) (by omega) c_61).elim
              | succ q ih57 =>
                intro j mm2 cc hj hcc hk8 hk2 hr2 hw2
                refine z_iload_n 3 dX7_findNames_57 rfl rfl ?_
                refine z_aload_n 0 dX7_findNames_58 rfl rfl ?_
                refine y_getR fX7_36 dX7_findNames_59 rfl rfl ?_
                refine z_iconst 1 dX7_findNames_62 (by decide) ?_
                refine y_ald (N := 1) dX7_findNames_63 rfl rfl (by decide) ?_
                refine z_icmp_ge 185 dX7_findNames_64 (by decide) (fun c_63 => ?_) (fun c_63 => ?_)
                · exact (ds rfl ((hI.n hw2).1) (by omega) (by omega) c_63).elim
                · refine z_iload_n 1 dX7_findNames_67 rfl rfl ?_
                  refine z_if_le 185 dX7_findNames_68 (by decide) (fun c_64 => ?_) (fun c_64 => ?_)
                  · obtain ⟨v_65, e_65⟩ : ∃ y : Int32, y = (Int32.ofNat k) + 1 := ⟨_, rfl⟩
                    refine z_iinc (lv' := [(1, .int v_65), (0, .ref 57), (2, .int cc), (3, .int (Int32.ofNat j))]) 1 v_65 dX7_findNames_185 rfl (by rw [e_65]; rfl) (Nat.le_of_ble_eq_true rfl) rfl ?_
                    refine z_goto 2 dX7_findNames_188 (by decide) ?_
                    obtain rfl : v_65 = Int32.ofNat (k + 1) := e_65.trans (nat_succ k)
                    refine z_sub [1,0] rfl ?_
                    exact ih2 (k + 1) _ (by omega) (hr.trans (congrArg (sfold _ n (k + 1)) (by rw [hr2]; first | rfl | (exact sfold_id (fun j s => by simp [rfn, c_2, c_4, c_42, c_63, c_64]) _ _ _)))) hw2
                  · refine z_iload_n 1 dX7_findNames_71 rfl rfl ?_
                    refine z_iload_n 3 dX7_findNames_72 rfl rfl ?_
                    refine y_Si [_, _] _ kX7_150 c7_has dX7_findNames_73 rfl rfl (Nat.le_of_ble_eq_true rfl) (Nat.le_of_ble_eq_true rfl) ⟨Nat.zero_le _, Nat.zero_le _⟩ ?_
                    refine z_if_eq 179 dX7_findNames_76 (by decide) (fun c_66 => ?_) (fun c_66 => ?_)
                    · obtain ⟨v_67, e_67⟩ : ∃ y : Int32, y = (Int32.ofNat j) + 1 := ⟨_, rfl⟩
                      refine z_iinc (lv' := [(3, .int v_67), (0, .ref 57), (1, .int (Int32.ofNat k)), (2, .int cc)]) 3 v_67 dX7_findNames_179 rfl (by rw [e_67]; rfl) (Nat.le_of_ble_eq_true rfl) rfl ?_
                      refine z_goto 57 dX7_findNames_182 (by decide) ?_
                      obtain rfl : v_67 = Int32.ofNat (j + 1) := e_67.trans (nat_succ j)
                      refine z_sub [1,2,3,0] rfl ?_
                      exact ih57 (j + 1) _ _ (by omega) hcc hk8 hk2 (hr2.trans (congrArg (sfold _ q (j + 1)) (by simp only [rfn, rfn1, rfn2, rfv, hcc, c_63, c_64, c_66, eq_self, not_true_eq_false, not_false_eq_true, if_true, if_false, reduceIte]))) (by first | exact hw2 | exact hw2.tr (W7n.m1.tr W7n.m2))
                    · refine z_aload_n 0 dX7_findNames_79 rfl rfl ?_
                      refine y_getR fX7_7 dX7_findNames_80 rfl rfl ?_
                      refine z_bipush 64 dX7_findNames_83 (by decide) ?_
                      refine z_iload_n 2 dX7_findNames_85 rfl rfl ?_
                      refine z_iadd dX7_findNames_86 ?_
                      refine y_wld (X := 0) (o := 64) (d := cc) dX7_findNames_87 (wiB (hcc ▸ ahd_vp hD7 hk2)) (wb (by decide) (hcc ▸ ahd_vp hD7 hk2) (by decide)) ?_
                      refine z_iload_n 3 dX7_findNames_88 rfl rfl ?_
                      refine y_Si [_, _] _ kX7_150 c7_has dX7_findNames_89 rfl rfl (Nat.le_of_ble_eq_true rfl) (Nat.le_of_ble_eq_true rfl) ⟨Nat.zero_le _, Nat.zero_le _⟩ ?_
                      refine z_if_eq 179 dX7_findNames_92 (by decide) (fun c_68 => ?_) (fun c_68 => ?_)
                      · obtain ⟨v_69, e_69⟩ : ∃ y : Int32, y = (Int32.ofNat j) + 1 := ⟨_, rfl⟩
                        refine z_iinc (lv' := [(3, .int v_69), (0, .ref 57), (1, .int (Int32.ofNat k)), (2, .int cc)]) 3 v_69 dX7_findNames_179 rfl (by rw [e_69]; rfl) (Nat.le_of_ble_eq_true rfl) rfl ?_
                        refine z_goto 57 dX7_findNames_182 (by decide) ?_
                        obtain rfl : v_69 = Int32.ofNat (j + 1) := e_69.trans (nat_succ j)
                        refine z_sub [1,2,3,0] rfl ?_
                        exact ih57 (j + 1) _ _ (by omega) hcc hk8 hk2 (hr2.trans (congrArg (sfold _ q (j + 1)) (by simp only [rfn, rfn1, rfn2, rfv, hcc, c_63, c_64, c_66, c_68, eq_self, not_true_eq_false, not_false_eq_true, if_true, if_false, reduceIte]))) (by first | exact hw2 | exact hw2.tr (W7n.m1.tr W7n.m2))
                      · refine z_iload_n 1 dX7_findNames_95 rfl rfl ?_
                        refine z_iconst 1 dX7_findNames_96 (by decide) ?_
                        refine z_iload_n 3 dX7_findNames_97 rfl rfl ?_
                        refine z_ishl dX7_findNames_98 ?_
                        refine z_iconst (-1) dX7_findNames_99 (by decide) ?_
                        refine z_ixor dX7_findNames_100 ?_
                        refine z_iand dX7_findNames_101 ?_
                        refine z_itop (y := (rr (Int32.ofNat k) j)) rfl ?_
                        refine z_istore (lv' := [(4, .int (rr (Int32.ofNat k) j)), (0, .ref 57), (1, .int (Int32.ofNat k)), (2, .int cc), (3, .int (Int32.ofNat j))]) dX7_findNames_102 (Nat.le_of_ble_eq_true rfl) rfl ?_
                        refine z_aload_n 1 dX7_findNames_104 rfl rfl ?_
                        refine y_getR fX7_63 dX7_findNames_105 rfl rfl ?_
                        refine z_iload 0 dX7_findNames_108 rfl ?_
                        refine y_ald (N := (rr (Int32.ofNat k) j).toNatClampNeg) dX7_findNames_110 rfl (vp_nn (rr_vp (vp_k hk8) j)) (vl4 (rr_vp (vp_k hk8) j)) ?_
                        refine z_aload_n 1 dX7_findNames_111 rfl rfl ?_
                        refine y_getR fX7_7 dX7_findNames_112 rfl rfl ?_
                        refine z_bipush 56 dX7_findNames_115 (by decide) ?_
                        refine z_iload_n 3 dX7_findNames_117 rfl rfl ?_
                        refine z_iadd dX7_findNames_118 ?_
                        refine y_wld (X := 0) (o := 56) (d := cc) dX7_findNames_119 (wiB (hcc ▸ ahd_vp hD7 hk2)) (wb (by decide) (hcc ▸ ahd_vp hD7 hk2) (by decide)) ?_
                        refine z_iload_n 4 dX7_findNames_120 rfl rfl ?_
                        refine z_icmp_eq 128 dX7_findNames_121 (by decide) (fun c_70 => ?_) (fun c_70 => ?_)
                        · refine z_iconst 0 dX7_findNames_128 (by decide) ?_
                          refine y_Si [_] _ kX7_157 (c7_one (by first | exact rlf01 _ _ _ | exact roff01 _ _ _ _ _ | decide)) dX7_findNames_129 rfl rfl (Nat.le_of_ble_eq_true rfl) (Nat.le_of_ble_eq_true rfl) ⟨Nat.zero_le _, Nat.zero_le _⟩ ?_
                          refine z_iadd dX7_findNames_132 ?_
                          refine z_topi (fun v_71 e_71 => ?_)
                          refine z_istore (lv' := [(5, .int v_71), (4, .int (rr (Int32.ofNat k) j)), (0, .ref 57), (1, .int (Int32.ofNat k)), (2, .int cc), (3, .int (Int32.ofNat j))]) dX7_findNames_133 (Nat.le_of_ble_eq_true rfl) rfl ?_
                          refine z_aload_n 2 dX7_findNames_135 rfl rfl ?_
                          refine y_getR fX7_60 dX7_findNames_136 rfl rfl ?_
                          refine z_iload_n 3 dX7_findNames_139 rfl rfl ?_
                          refine z_dup2 dX7_findNames_140 rfl rfl ?_
                          refine y_ald (N := k) dX7_findNames_141 rfl rfl (by omega) ?_
                          refine z_aload_n 2 dX7_findNames_142 rfl rfl ?_
                          refine y_getR fX7_60 dX7_findNames_143 rfl rfl ?_
                          refine z_iload 1 dX7_findNames_146 rfl ?_
                          refine y_ald (N := (rr (Int32.ofNat k) j).toNatClampNeg) dX7_findNames_148 rfl (vp_nn (rr_vp (vp_k hk8) j)) (vl4 (rr_vp (vp_k hk8) j)) ?_
                          refine z_iadd dX7_findNames_149 ?_
                          refine y_ast (N := k) dX7_findNames_150 rfl rfl (by omega) ?_
                          refine z_aload_n 2 dX7_findNames_151 rfl rfl ?_
                          refine y_getR fX7_63 dX7_findNames_152 rfl rfl ?_
                          refine z_iload_n 3 dX7_findNames_155 rfl rfl ?_
                          refine z_iload 0 dX7_findNames_156 rfl ?_
                          refine z_aload_n 2 dX7_findNames_158 rfl rfl ?_
                          refine y_getR fX7_63 dX7_findNames_159 rfl rfl ?_
                          refine z_iload_n 3 dX7_findNames_162 rfl rfl ?_
                          refine y_ald (N := k) dX7_findNames_163 rfl rfl (by omega) ?_
                          refine z_icmp_ge 172 dX7_findNames_164 (by decide) (fun c_72 => ?_) (fun c_72 => ?_)
                          · refine z_aload_n 2 dX7_findNames_172 rfl rfl ?_
                            refine y_getR fX7_63 dX7_findNames_173 rfl rfl ?_
                            refine z_iload_n 3 dX7_findNames_176 rfl rfl ?_
                            refine y_ald (N := k) dX7_findNames_177 rfl rfl (by omega) ?_
                            refine y_ast (N := k) dX7_findNames_178 rfl rfl (by omega) ?_
                            obtain ⟨v_73, e_73⟩ : ∃ y : Int32, y = (Int32.ofNat j) + 1 := ⟨_, rfl⟩
                            refine z_iinc (lv' := [(3, .int v_73), (5, .int v_71), (4, .int (rr (Int32.ofNat k) j)), (0, .ref 57), (1, .int (Int32.ofNat k)), (2, .int cc)]) 5 v_73 dX7_findNames_179 rfl (by rw [e_73]; rfl) (Nat.le_of_ble_eq_true rfl) rfl ?_
                            refine z_goto 57 dX7_findNames_182 (by decide) ?_
                            obtain rfl : v_73 = Int32.ofNat (j + 1) := e_73.trans (nat_succ j)
                            refine z_sub [3,4,5,0] rfl ?_
                            exact ih57 (j + 1) _ _ (by omega) hcc hk8 hk2 (hr2.trans (congrArg (sfold _ q (j + 1)) (by simp only [rfn, rfn1, rfn2, rfv, hcc, c_63, c_64, c_66, c_68, c_70, c_72, eq_self, not_true_eq_false, not_false_eq_true, if_true, if_false, reduceIte, ← e_71]))) (by first | exact hw2 | exact hw2.tr (W7n.m1.tr W7n.m2))
                          · refine z_iload 0 dX7_findNames_167 rfl ?_
                            refine z_goto 178 dX7_findNames_169 (by decide) ?_
                            refine y_ast (N := k) dX7_findNames_178 rfl rfl (by omega) ?_
                            obtain ⟨v_74, e_74⟩ : ∃ y : Int32, y = (Int32.ofNat j) + 1 := ⟨_, rfl⟩
                            refine z_iinc (lv' := [(3, .int v_74), (5, .int v_71), (4, .int (rr (Int32.ofNat k) j)), (0, .ref 57), (1, .int (Int32.ofNat k)), (2, .int cc)]) 5 v_74 dX7_findNames_179 rfl (by rw [e_74]; rfl) (Nat.le_of_ble_eq_true rfl) rfl ?_
                            refine z_goto 57 dX7_findNames_182 (by decide) ?_
                            obtain rfl : v_74 = Int32.ofNat (j + 1) := e_74.trans (nat_succ j)
                            refine z_sub [3,4,5,0] rfl ?_
                            exact ih57 (j + 1) _ _ (by omega) hcc hk8 hk2 (hr2.trans (congrArg (sfold _ q (j + 1)) (by simp only [rfn, rfn1, rfn2, rfv, hcc, c_63, c_64, c_66, c_68, c_70, c_72, eq_self, not_true_eq_false, not_false_eq_true, if_true, if_false, reduceIte, ← e_71]))) (by first | exact hw2 | exact hw2.tr (W7n.m1.tr W7n.m2))
                        · refine z_iconst 1 dX7_findNames_124 (by decide) ?_
                          refine z_goto 129 dX7_findNames_125 (by decide) ?_
                          refine y_Si [_] _ kX7_157 (c7_one (by first | exact rlf01 _ _ _ | exact roff01 _ _ _ _ _ | decide)) dX7_findNames_129 rfl rfl (Nat.le_of_ble_eq_true rfl) (Nat.le_of_ble_eq_true rfl) ⟨Nat.zero_le _, Nat.zero_le _⟩ ?_
                          refine z_iadd dX7_findNames_132 ?_
                          refine z_topi (fun v_75 e_75 => ?_)
                          refine z_istore (lv' := [(5, .int v_75), (4, .int (rr (Int32.ofNat k) j)), (0, .ref 57), (1, .int (Int32.ofNat k)), (2, .int cc), (3, .int (Int32.ofNat j))]) dX7_findNames_133 (Nat.le_of_ble_eq_true rfl) rfl ?_
                          refine z_aload_n 2 dX7_findNames_135 rfl rfl ?_
                          refine y_getR fX7_60 dX7_findNames_136 rfl rfl ?_
                          refine z_iload_n 3 dX7_findNames_139 rfl rfl ?_
                          refine z_dup2 dX7_findNames_140 rfl rfl ?_
                          refine y_ald (N := k) dX7_findNames_141 rfl rfl (by omega) ?_
                          refine z_aload_n 2 dX7_findNames_142 rfl rfl ?_
                          refine y_getR fX7_60 dX7_findNames_143 rfl rfl ?_
                          refine z_iload 1 dX7_findNames_146 rfl ?_
                          refine y_ald (N := (rr (Int32.ofNat k) j).toNatClampNeg) dX7_findNames_148 rfl (vp_nn (rr_vp (vp_k hk8) j)) (vl4 (rr_vp (vp_k hk8) j)) ?_
                          refine z_iadd dX7_findNames_149 ?_
                          refine y_ast (N := k) dX7_findNames_150 rfl rfl (by omega) ?_
                          refine z_aload_n 2 dX7_findNames_151 rfl rfl ?_
                          refine y_getR fX7_63 dX7_findNames_152 rfl rfl ?_
                          refine z_iload_n 3 dX7_findNames_155 rfl rfl ?_
                          refine z_iload 0 dX7_findNames_156 rfl ?_
                          refine z_aload_n 2 dX7_findNames_158 rfl rfl ?_
                          refine y_getR fX7_63 dX7_findNames_159 rfl rfl ?_
                          refine z_iload_n 3 dX7_findNames_162 rfl rfl ?_
                          refine y_ald (N := k) dX7_findNames_163 rfl rfl (by omega) ?_
                          refine z_icmp_ge 172 dX7_findNames_164 (by decide) (fun c_76 => ?_) (fun c_76 => ?_)
                          · refine z_aload_n 2 dX7_findNames_172 rfl rfl ?_
                            refine y_getR fX7_63 dX7_findNames_173 rfl rfl ?_
                            refine z_iload_n 3 dX7_findNames_176 rfl rfl ?_
                            refine y_ald (N := k) dX7_findNames_177 rfl rfl (by omega) ?_
                            refine y_ast (N := k) dX7_findNames_178 rfl rfl (by omega) ?_
                            obtain ⟨v_77, e_77⟩ : ∃ y : Int32, y = (Int32.ofNat j) + 1 := ⟨_, rfl⟩
                            refine z_iinc (lv' := [(3, .int v_77), (5, .int v_75), (4, .int (rr (Int32.ofNat k) j)), (0, .ref 57), (1, .int (Int32.ofNat k)), (2, .int cc)]) 5 v_77 dX7_findNames_179 rfl (by rw [e_77]; rfl) (Nat.le_of_ble_eq_true rfl) rfl ?_
                            refine z_goto 57 dX7_findNames_182 (by decide) ?_
                            obtain rfl : v_77 = Int32.ofNat (j + 1) := e_77.trans (nat_succ j)
                            refine z_sub [3,4,5,0] rfl ?_
                            exact ih57 (j + 1) _ _ (by omega) hcc hk8 hk2 (hr2.trans (congrArg (sfold _ q (j + 1)) (by simp only [rfn, rfn1, rfn2, rfv, hcc, c_63, c_64, c_66, c_68, c_70, c_76, eq_self, not_true_eq_false, not_false_eq_true, if_true, if_false, reduceIte, ← e_75]))) (by first | exact hw2 | exact hw2.tr (W7n.m1.tr W7n.m2))
                          · refine z_iload 0 dX7_findNames_167 rfl ?_
                            refine z_goto 178 dX7_findNames_169 (by decide) ?_
                            refine y_ast (N := k) dX7_findNames_178 rfl rfl (by omega) ?_
                            obtain ⟨v_78, e_78⟩ : ∃ y : Int32, y = (Int32.ofNat j) + 1 := ⟨_, rfl⟩
                            refine z_iinc (lv' := [(3, .int v_78), (5, .int v_75), (4, .int (rr (Int32.ofNat k) j)), (0, .ref 57), (1, .int (Int32.ofNat k)), (2, .int cc)]) 5 v_78 dX7_findNames_179 rfl (by rw [e_78]; rfl) (Nat.le_of_ble_eq_true rfl) rfl ?_
                            refine z_goto 57 dX7_findNames_182 (by decide) ?_
                            obtain rfl : v_78 = Int32.ofNat (j + 1) := e_78.trans (nat_succ j)
                            refine z_sub [3,4,5,0] rfl ?_
                            exact ih57 (j + 1) _ _ (by omega) hcc hk8 hk2 (hr2.trans (congrArg (sfold _ q (j + 1)) (by simp only [rfn, rfn1, rfn2, rfv, hcc, c_63, c_64, c_66, c_68, c_70, c_76, eq_self, not_true_eq_false, not_false_eq_true, if_true, if_false, reduceIte, ← e_75]))) (by first | exact hw2 | exact hw2.tr (W7n.m1.tr W7n.m2))
            refine z_sub [2,3,1,0] rfl ?_
            exact loop57 (D) 0 _ _ (by omega) (by simp only [e_3]) hk8 hk2 (congrArg (sfold (rfn D k) D 0) (by first | (simp [rfo0, c_2, c_4, c_42, e_3]; done) | exact absurd (by assumption) (by assumption : ¬ Int32.ofNat k = 0))) (hw.tr (W7n.m1.tr W7n.m2))
  refine z_sub [1,0] rfl ?_
  exact loop2 (2 ^ D) 0 _ (by omega) rfl (W7n.rf m)
