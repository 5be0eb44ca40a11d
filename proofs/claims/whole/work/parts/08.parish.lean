/-! a parish at p, a custom at r -/
def isPar (p : Nat) : Prop := zshape[p]? = some (.inr (3, [none, none, none, none, some (p + 1), some (p + 2), some (p + 3), some (p + 4), some (p + 5), some (p + 6), some (p + 7), some (p + 8), some (p + 9), none, none, none])) ∧ zshape[p + 1]? = some (zarr 8) ∧ zshape[p + 2]? = some (zarr 7) ∧ zshape[p + 3]? = some (zarr 7) ∧ zshape[p + 4]? = some (zarr 7) ∧ zshape[p + 5]? = some (zarr 7) ∧ zshape[p + 6]? = some (zarr 7) ∧ zshape[p + 7]? = some (zarr 7) ∧ zshape[p + 8]? = some (zarr 7) ∧ zshape[p + 9]? = some (zarr 7)
def isCus (r : Nat) : Prop := zshape[r]? = some (.inr (1, [some (r + 1), none])) ∧ zshape[r + 1]? = some (zarr 4)
theorem isPar7 : isPar 7 := ⟨rfl, rfl, rfl, rfl, rfl, rfl, rfl, rfl, rfl, rfl⟩
theorem isPar17 : isPar 17 := ⟨rfl, rfl, rfl, rfl, rfl, rfl, rfl, rfl, rfl, rfl⟩
theorem isPar27 : isPar 27 := ⟨rfl, rfl, rfl, rfl, rfl, rfl, rfl, rfl, rfl, rfl⟩
theorem isPar37 : isPar 37 := ⟨rfl, rfl, rfl, rfl, rfl, rfl, rfl, rfl, rfl, rfl⟩
theorem isCus3 : isCus 3 := ⟨rfl, rfl⟩
theorem isCus5 : isCus 5 := ⟨rfl, rfl⟩
/-- from k on, n steps of f -/
def sfold {α : Type} (f : Nat → α → α) : Nat → Nat → α → α
  | 0, _, s => s
  | n + 1, k, s => sfold f n (k + 1) (f k s)
/-- the first from k on, of n, that is c; else -1 -/
def sfind (c : Nat → Bool) : Nat → Nat → Int32
  | 0, _ => -1
  | n + 1, k => if c k then Int32.ofNat k else sfind c n (k + 1)
def sin (y i : Int32) : Int32 := if i < 0 then 0 else if y ≤ i then 0 else 1
def slaid (m : zmem) (p D : Nat) : Int32 := sfold (fun k s => if aat 7 (m (p + 7)) (Int32.ofNat k) = -1 then s else s ||| sbit (Int32.ofNat k)) D 0 0
def swait (m : zmem) (p D : Nat) : Int32 := ((sbit (m p 1) - 1) &&& (slaid m p D ^^^ -1)) &&& (m p 13 ^^^ -1)
def swho (m : zmem) (p D : Nat) (i : Int32) : Int32 := sfind (fun k => decide (aat 7 (m (p + 7)) (Int32.ofNat k) = i)) D 0
def staken (m : zmem) (p D : Nat) : Int32 := sfold (fun k s => s ||| sbit (aat 7 (m (p + 7)) (Int32.ofNat k))) D 0 0
def ssoft (m : zmem) (p Y : Nat) : Int32 := sfold (fun k s => if aat 8 (m (p + 1)) (Int32.ofNat k) = 0 then s ||| sbit (Int32.ofNat k) else s) Y 0 0
def ssf (m : zmem) (p D Y : Nat) : Int32 := ssoft m p Y &&& (staken m p D ^^^ -1)
def sbless (m : zmem) (p D : Nat) : Int32 := (sfold (fun k s => if aat 7 (m (p + 6)) (Int32.ofNat k) = 0 then s ||| sbit (Int32.ofNat k) else s) D 0 0) &&& swait m p D
def sranks (m : zmem) (p D : Nat) (set : Int32) : Int32 := sfold (fun k s => if shas set (Int32.ofNat k) = 0 then s else s + aat 7 (m (p + 2)) (Int32.ofNat k)) D 0 0
def sworth (m : zmem) (p : Nat) (c d : Int32) : Int32 := if c = 0 then aat 7 (m (p + 2)) d else if c = 1 then aat 7 (m (p + 3)) d else if c = 2 then aat 7 (m (p + 5)) d else if c = 3 then 9 - aat 7 (m (p + 4)) d else 0
def sclaim (m : zmem) (p r C : Nat) (d : Int32) : Int64 := (sfold (fun k s => s * 10000 + (sworth m p (aat 4 (m (r + 1)) (Int32.ofNat k)) d).toInt64) C 0 0) * 8 + 7 - d.toInt64
def surg (m : zmem) (p r C : Nat) (d : Int32) : Int64 := if aat 7 (m (p + 6)) d = 0 then sclaim m p r C d + 1000000000000000000 else sclaim m p r C d
def splace (m : zmem) (p r C D : Nat) (set d : Int32) : Int32 := sfold (fun k s => if shas set (Int32.ofNat k) = 0 then s else if lg_cmp (surg m p r C (Int32.ofNat k)) (surg m p r C d) ≤ 0 then s else s + 1) D 0 0
def sfirst (m : zmem) (p r C D : Nat) (set : Int32) : Int32 × Int64 := sfold (fun k s => if shas set (Int32.ofNat k) = 0 then s else if lg_cmp (surg m p r C (Int32.ofNat k)) s.2 ≤ 0 then s else (Int32.ofNat k, surg m p r C (Int32.ofNat k))) D 0 (-1, -1)
def smax (x y : Int32) : Int32 := if x < y then y else x
def smin (x y : Int32) : Int32 := if y < x then y else x
def sthaw (m : zmem) (p : Nat) (i h : Int32) : Int32 := smax 0 (h * m p 2 - m p 3 * i)
set_option maxRecDepth 100000 in
set_option maxHeartbeats 4000000 in
theorem c_hasYard {m : zmem} {p : Nat} {i : Int32} (hP : isPar p) : Ei MX3_hasYard 0 [.ref p, .int i] m (sin (m p 0) i) (m) := by
  refine Ei.of (by decide) (Nat.le_of_ble_eq_true rfl) ?_
  show Z _ 0 [(0, .ref p), (1, .int i)] _ _ _ _
  refine z_iload_n 1 dX3_hasYard_0 rfl rfl ?_
  refine z_if_lt 16 dX3_hasYard_1 (by decide) (fun c_1 => ?_) (fun c_1 => ?_)
  · refine z_iconst 0 dX3_hasYard_16 (by decide) ?_
    exact y_zret dX3_hasYard_17 rfl (by simp) (by simp [sin, c_1]) rfl
  · refine z_iload_n 1 dX3_hasYard_4 rfl rfl ?_
    refine z_aload_n 0 dX3_hasYard_5 rfl rfl ?_
    refine y_getI fX3_9 dX3_hasYard_6 hP.1 rfl ?_
    refine z_icmp_ge 16 dX3_hasYard_9 (by decide) (fun c_2 => ?_) (fun c_2 => ?_)
    · refine z_iconst 0 dX3_hasYard_16 (by decide) ?_
      exact y_zret dX3_hasYard_17 rfl (by simp) (by simp [sin, c_1, c_2]) rfl
    · refine z_iconst 1 dX3_hasYard_12 (by decide) ?_
      refine z_goto 17 dX3_hasYard_13 (by decide) ?_
      exact y_zret dX3_hasYard_17 rfl (by simp) (by simp [sin, c_1, c_2]) rfl
set_option maxRecDepth 100000 in
set_option maxHeartbeats 4000000 in
theorem c_hasDead {m : zmem} {p : Nat} {i : Int32} (hP : isPar p) : Ei MX3_hasDead 0 [.ref p, .int i] m (sin (m p 1) i) (m) := by
  refine Ei.of (by decide) (Nat.le_of_ble_eq_true rfl) ?_
  show Z _ 0 [(0, .ref p), (1, .int i)] _ _ _ _
  refine z_iload_n 1 dX3_hasDead_0 rfl rfl ?_
  refine z_if_lt 16 dX3_hasDead_1 (by decide) (fun c_1 => ?_) (fun c_1 => ?_)
  · refine z_iconst 0 dX3_hasDead_16 (by decide) ?_
    exact y_zret dX3_hasDead_17 rfl (by simp) (by simp [sin, c_1]) rfl
  · refine z_iload_n 1 dX3_hasDead_4 rfl rfl ?_
    refine z_aload_n 0 dX3_hasDead_5 rfl rfl ?_
    refine y_getI fX3_15 dX3_hasDead_6 hP.1 rfl ?_
    refine z_icmp_ge 16 dX3_hasDead_9 (by decide) (fun c_2 => ?_) (fun c_2 => ?_)
    · refine z_iconst 0 dX3_hasDead_16 (by decide) ?_
      exact y_zret dX3_hasDead_17 rfl (by simp) (by simp [sin, c_1, c_2]) rfl
    · refine z_iconst 1 dX3_hasDead_12 (by decide) ?_
      refine z_goto 17 dX3_hasDead_13 (by decide) ?_
      exact y_zret dX3_hasDead_17 rfl (by simp) (by simp [sin, c_1, c_2]) rfl
set_option maxRecDepth 100000 in
set_option maxHeartbeats 4000000 in
theorem c_laid {m : zmem} {p D : Nat} (hP : isPar p) (hD : m p 1 = Int32.ofNat D) (hD7 : D ≤ 7) : Ei MX3_laid 1 [.ref p] m (slaid m p D) (m) := by
  refine Ei.of (by decide) (Nat.le_of_ble_eq_true rfl) ?_
  show Z _ 0 [(0, .ref p)] _ _ _ _
  refine z_iconst 0 dX3_laid_0 (by decide) ?_
  refine z_istore_n (lv' := [(1, .int 0), (0, .ref p)]) dX3_laid_1 rfl (Nat.le_of_ble_eq_true rfl) rfl ?_
  refine z_iconst 0 dX3_laid_2 (by decide) ?_
  refine z_istore_n (lv' := [(2, .int 0), (1, .int 0), (0, .ref p)]) dX3_laid_3 rfl (Nat.le_of_ble_eq_true rfl) rfl ?_
  have loop4 : ∀ (n : Nat) (k : Nat) (s : Int32), k + n = D → slaid m p D = sfold (fun k s => if aat 7 (m (p + 7)) (Int32.ofNat k) = -1 then s else s ||| sbit (Int32.ofNat k)) n k s → Z (zMB (Qi (slaid m p D) (m)) 1 MX3_laid) 4 [(0, .ref p), (1, .int s), (2, .int (Int32.ofNat k))] [] (hp m) 0 0 := by
    intro n
    induction n with
    | zero =>
      intro k s hk hr
      refine z_iload_n 2 dX3_laid_4 rfl rfl ?_
      refine z_aload_n 0 dX3_laid_5 rfl rfl ?_
      refine y_getI fX3_15 dX3_laid_6 hP.1 rfl ?_
      refine z_icmp_ge 37 dX3_laid_9 (by decide) (fun c_1 => ?_) (fun c_1 => ?_)
      · refine z_iload_n 1 dX3_laid_37 rfl rfl ?_
        exact y_iret dX3_laid_38 rfl hr.symm rfl
      · exact (dz rfl hD (by omega) (by omega) c_1).elim
    | succ n ih4 =>
      intro k s hk hr
      refine z_iload_n 2 dX3_laid_4 rfl rfl ?_
      refine z_aload_n 0 dX3_laid_5 rfl rfl ?_
      refine y_getI fX3_15 dX3_laid_6 hP.1 rfl ?_
      refine z_icmp_ge 37 dX3_laid_9 (by decide) (fun c_2 => ?_) (fun c_2 => ?_)
      · exact (ds rfl hD (by omega) (by omega) c_2).elim
      · refine z_aload_n 0 dX3_laid_12 rfl rfl ?_
        refine y_getR fX3_43 dX3_laid_13 hP.1 rfl ?_
        refine z_iload_n 2 dX3_laid_16 rfl rfl ?_
        refine y_Si [_, _] _ kX3_118 (c_at hP.2.2.2.2.2.2.2.1 (by decide)) dX3_laid_17 rfl rfl (Nat.le_of_ble_eq_true rfl) (Nat.le_of_ble_eq_true rfl) ⟨Nat.zero_le _, Nat.zero_le _⟩ ?_
        refine z_iconst (-1) dX3_laid_20 (by decide) ?_
        refine z_icmp_eq 31 dX3_laid_21 (by decide) (fun c_3 => ?_) (fun c_3 => ?_)
        · obtain ⟨v_4, e_4⟩ : ∃ y : Int32, y = (Int32.ofNat k) + 1 := ⟨_, rfl⟩
          refine z_iinc (lv' := [(2, .int v_4), (0, .ref p), (1, .int s)]) 2 v_4 dX3_laid_31 rfl (by rw [e_4]; rfl) (Nat.le_of_ble_eq_true rfl) rfl ?_
          refine z_goto 4 dX3_laid_34 (by decide) ?_
          obtain rfl : v_4 = Int32.ofNat (k + 1) := e_4.trans (nat_succ k)
          refine z_sub [1,2,0] rfl ?_
          exact ih4 (k + 1) _ (by omega) (hr.trans (congrArg (sfold _ n (k + 1)) (by simp [c_2, c_3])))
        · refine z_iload_n 1 dX3_laid_24 rfl rfl ?_
          refine z_iload_n 2 dX3_laid_25 rfl rfl ?_
          refine y_Si [_] _ kX3_122 c_bit dX3_laid_26 rfl rfl (Nat.le_of_ble_eq_true rfl) (Nat.le_of_ble_eq_true rfl) ⟨Nat.zero_le _, Nat.zero_le _⟩ ?_
          refine z_ior dX3_laid_29 ?_
          refine z_topi (fun v_5 e_5 => ?_)
          refine z_istore_n (lv' := [(1, .int v_5), (0, .ref p), (2, .int (Int32.ofNat k))]) dX3_laid_30 rfl (Nat.le_of_ble_eq_true rfl) rfl ?_
          obtain ⟨v_6, e_6⟩ : ∃ y : Int32, y = (Int32.ofNat k) + 1 := ⟨_, rfl⟩
          refine z_iinc (lv' := [(2, .int v_6), (1, .int v_5), (0, .ref p)]) 2 v_6 dX3_laid_31 rfl (by rw [e_6]; rfl) (Nat.le_of_ble_eq_true rfl) rfl ?_
          refine z_goto 4 dX3_laid_34 (by decide) ?_
          obtain rfl : v_6 = Int32.ofNat (k + 1) := e_6.trans (nat_succ k)
          refine z_sub [2,1,0] rfl ?_
          exact ih4 (k + 1) _ (by omega) (hr.trans (congrArg (sfold _ n (k + 1)) (by simp [c_2, c_3, e_5])))
  refine z_sub [2,1,0] rfl ?_
  exact loop4 D 0 _ (by omega) rfl
set_option maxRecDepth 100000 in
set_option maxHeartbeats 4000000 in
theorem c_waiting {m : zmem} {p D : Nat} (hP : isPar p) (hD : m p 1 = Int32.ofNat D) (hD7 : D ≤ 7) : Ei MX3_waiting 2 [.ref p] m (swait m p D) (m) := by
  refine Ei.of (by decide) (Nat.le_of_ble_eq_true rfl) ?_
  show Z _ 0 [(0, .ref p)] _ _ _ _
  refine z_aload_n 0 dX3_waiting_0 rfl rfl ?_
  refine y_getI fX3_15 dX3_waiting_1 hP.1 rfl ?_
  refine y_Si [_] _ kX3_114 c_allBelow dX3_waiting_4 rfl rfl (Nat.le_of_ble_eq_true rfl) (Nat.le_of_ble_eq_true rfl) ⟨Nat.zero_le _, Nat.zero_le _⟩ ?_
  refine z_aload_n 0 dX3_waiting_7 rfl rfl ?_
  refine y_Vi [] _ kX3_125 (c_laid hP hD hD7) rfl hP.1 dX3_waiting_8 rfl rfl (Nat.le_of_ble_eq_true rfl) (Nat.le_of_ble_eq_true rfl) ⟨Nat.zero_le _, Nat.zero_le _⟩ ?_
  refine z_iconst (-1) dX3_waiting_11 (by decide) ?_
  refine z_ixor dX3_waiting_12 ?_
  refine z_iand dX3_waiting_13 ?_
  refine z_aload_n 0 dX3_waiting_14 rfl rfl ?_
  refine y_getI fX3_52 dX3_waiting_15 hP.1 rfl ?_
  refine z_iconst (-1) dX3_waiting_18 (by decide) ?_
  refine z_ixor dX3_waiting_19 ?_
  refine z_iand dX3_waiting_20 ?_
  exact y_iret dX3_waiting_21 rfl rfl rfl
set_option maxRecDepth 100000 in
set_option maxHeartbeats 4000000 in
theorem c_who {m : zmem} {p D : Nat} {i : Int32} (hP : isPar p) (hD : m p 1 = Int32.ofNat D) (hD7 : D ≤ 7) : Ei MX3_whoLiesIn 1 [.ref p, .int i] m (swho m p D i) (m) := by
  refine Ei.of (by decide) (Nat.le_of_ble_eq_true rfl) ?_
  show Z _ 0 [(0, .ref p), (1, .int i)] _ _ _ _
  refine z_iconst 0 dX3_whoLiesIn_0 (by decide) ?_
  refine z_istore_n (lv' := [(2, .int 0), (0, .ref p), (1, .int i)]) dX3_whoLiesIn_1 rfl (Nat.le_of_ble_eq_true rfl) rfl ?_
  have loop2 : ∀ (n : Nat) (k : Nat), k + n = D → swho m p D i = sfind (fun k => decide (aat 7 (m (p + 7)) (Int32.ofNat k) = i)) n k → Z (zMB (Qi (swho m p D i) (m)) 1 MX3_whoLiesIn) 2 [(0, .ref p), (1, .int i), (2, .int (Int32.ofNat k))] [] (hp m) 0 0 := by
    intro n
    induction n with
    | zero =>
      intro k hk hr
      refine z_iload_n 2 dX3_whoLiesIn_2 rfl rfl ?_
      refine z_aload_n 0 dX3_whoLiesIn_3 rfl rfl ?_
      refine y_getI fX3_15 dX3_whoLiesIn_4 hP.1 rfl ?_
      refine z_icmp_ge 30 dX3_whoLiesIn_7 (by decide) (fun c_1 => ?_) (fun c_1 => ?_)
      · refine z_iconst (-1) dX3_whoLiesIn_30 (by decide) ?_
        exact y_iret dX3_whoLiesIn_31 rfl (by first | exact hr.symm | (rw [hr]; simp [sfind, c_1])) rfl
      · exact (dz rfl hD (by omega) (by omega) c_1).elim
    | succ n ih2 =>
      intro k hk hr
      refine z_iload_n 2 dX3_whoLiesIn_2 rfl rfl ?_
      refine z_aload_n 0 dX3_whoLiesIn_3 rfl rfl ?_
      refine y_getI fX3_15 dX3_whoLiesIn_4 hP.1 rfl ?_
      refine z_icmp_ge 30 dX3_whoLiesIn_7 (by decide) (fun c_2 => ?_) (fun c_2 => ?_)
      · exact (ds rfl hD (by omega) (by omega) c_2).elim
      · refine z_aload_n 0 dX3_whoLiesIn_10 rfl rfl ?_
        refine y_getR fX3_43 dX3_whoLiesIn_11 hP.1 rfl ?_
        refine z_iload_n 2 dX3_whoLiesIn_14 rfl rfl ?_
        refine y_Si [_, _] _ kX3_118 (c_at hP.2.2.2.2.2.2.2.1 (by decide)) dX3_whoLiesIn_15 rfl rfl (Nat.le_of_ble_eq_true rfl) (Nat.le_of_ble_eq_true rfl) ⟨Nat.zero_le _, Nat.zero_le _⟩ ?_
        refine z_iload_n 1 dX3_whoLiesIn_18 rfl rfl ?_
        refine z_icmp_ne 24 dX3_whoLiesIn_19 (by decide) (fun c_3 => ?_) (fun c_3 => ?_)
        · obtain ⟨v_4, e_4⟩ : ∃ y : Int32, y = (Int32.ofNat k) + 1 := ⟨_, rfl⟩
          refine z_iinc (lv' := [(2, .int v_4), (0, .ref p), (1, .int i)]) 2 v_4 dX3_whoLiesIn_24 rfl (by rw [e_4]; rfl) (Nat.le_of_ble_eq_true rfl) rfl ?_
          refine z_goto 2 dX3_whoLiesIn_27 (by decide) ?_
          obtain rfl : v_4 = Int32.ofNat (k + 1) := e_4.trans (nat_succ k)
          refine z_sub [1,2,0] rfl ?_
          exact ih2 (k + 1)  (by omega) (hr.trans (by simp [sfind, c_2, c_3]))
        · refine z_iload_n 2 dX3_whoLiesIn_22 rfl rfl ?_
          exact y_iret dX3_whoLiesIn_23 rfl (by first | exact hr.symm | (rw [hr]; simp [sfind, c_2, c_3])) rfl
  refine z_sub [1,2,0] rfl ?_
  exact loop2 D 0  (by omega) rfl
set_option maxRecDepth 100000 in
set_option maxHeartbeats 4000000 in
theorem c_taken {m : zmem} {p D : Nat} (hP : isPar p) (hD : m p 1 = Int32.ofNat D) (hD7 : D ≤ 7) : Ei MX3_taken 1 [.ref p] m (staken m p D) (m) := by
  refine Ei.of (by decide) (Nat.le_of_ble_eq_true rfl) ?_
  show Z _ 0 [(0, .ref p)] _ _ _ _
  refine z_iconst 0 dX3_taken_0 (by decide) ?_
  refine z_istore_n (lv' := [(1, .int 0), (0, .ref p)]) dX3_taken_1 rfl (Nat.le_of_ble_eq_true rfl) rfl ?_
  refine z_iconst 0 dX3_taken_2 (by decide) ?_
  refine z_istore_n (lv' := [(2, .int 0), (1, .int 0), (0, .ref p)]) dX3_taken_3 rfl (Nat.le_of_ble_eq_true rfl) rfl ?_
  have loop4 : ∀ (n : Nat) (k : Nat) (s : Int32), k + n = D → staken m p D = sfold (fun k s => s ||| sbit (aat 7 (m (p + 7)) (Int32.ofNat k))) n k s → Z (zMB (Qi (staken m p D) (m)) 1 MX3_taken) 4 [(0, .ref p), (1, .int s), (2, .int (Int32.ofNat k))] [] (hp m) 0 0 := by
    intro n
    induction n with
    | zero =>
      intro k s hk hr
      refine z_iload_n 2 dX3_taken_4 rfl rfl ?_
      refine z_aload_n 0 dX3_taken_5 rfl rfl ?_
      refine y_getI fX3_15 dX3_taken_6 hP.1 rfl ?_
      refine z_icmp_ge 32 dX3_taken_9 (by decide) (fun c_1 => ?_) (fun c_1 => ?_)
      · refine z_iload_n 1 dX3_taken_32 rfl rfl ?_
        exact y_iret dX3_taken_33 rfl hr.symm rfl
      · exact (dz rfl hD (by omega) (by omega) c_1).elim
    | succ n ih4 =>
      intro k s hk hr
      refine z_iload_n 2 dX3_taken_4 rfl rfl ?_
      refine z_aload_n 0 dX3_taken_5 rfl rfl ?_
      refine y_getI fX3_15 dX3_taken_6 hP.1 rfl ?_
      refine z_icmp_ge 32 dX3_taken_9 (by decide) (fun c_2 => ?_) (fun c_2 => ?_)
      · exact (ds rfl hD (by omega) (by omega) c_2).elim
      · refine z_iload_n 1 dX3_taken_12 rfl rfl ?_
        refine z_aload_n 0 dX3_taken_13 rfl rfl ?_
        refine y_getR fX3_43 dX3_taken_14 hP.1 rfl ?_
        refine z_iload_n 2 dX3_taken_17 rfl rfl ?_
        refine y_Si [_, _] _ kX3_118 (c_at hP.2.2.2.2.2.2.2.1 (by decide)) dX3_taken_18 rfl rfl (Nat.le_of_ble_eq_true rfl) (Nat.le_of_ble_eq_true rfl) ⟨Nat.zero_le _, Nat.zero_le _⟩ ?_
        refine y_Si [_] _ kX3_122 c_bit dX3_taken_21 rfl rfl (Nat.le_of_ble_eq_true rfl) (Nat.le_of_ble_eq_true rfl) ⟨Nat.zero_le _, Nat.zero_le _⟩ ?_
        refine z_ior dX3_taken_24 ?_
        refine z_topi (fun v_3 e_3 => ?_)
        refine z_istore_n (lv' := [(1, .int v_3), (0, .ref p), (2, .int (Int32.ofNat k))]) dX3_taken_25 rfl (Nat.le_of_ble_eq_true rfl) rfl ?_
        obtain ⟨v_4, e_4⟩ : ∃ y : Int32, y = (Int32.ofNat k) + 1 := ⟨_, rfl⟩
        refine z_iinc (lv' := [(2, .int v_4), (1, .int v_3), (0, .ref p)]) 2 v_4 dX3_taken_26 rfl (by rw [e_4]; rfl) (Nat.le_of_ble_eq_true rfl) rfl ?_
        refine z_goto 4 dX3_taken_29 (by decide) ?_
        obtain rfl : v_4 = Int32.ofNat (k + 1) := e_4.trans (nat_succ k)
        refine z_sub [2,1,0] rfl ?_
        exact ih4 (k + 1) _ (by omega) (hr.trans (congrArg (sfold _ n (k + 1)) (by simp [c_2, e_3])))
  refine z_sub [2,1,0] rfl ?_
  exact loop4 D 0 _ (by omega) rfl
set_option maxRecDepth 100000 in
set_option maxHeartbeats 4000000 in
theorem c_soft {m : zmem} {p Y : Nat} (hP : isPar p) (hY : m p 0 = Int32.ofNat Y) (hY8 : Y ≤ 8) : Ei MX3_soft 1 [.ref p] m (ssoft m p Y) (m) := by
  refine Ei.of (by decide) (Nat.le_of_ble_eq_true rfl) ?_
  show Z _ 0 [(0, .ref p)] _ _ _ _
  refine z_iconst 0 dX3_soft_0 (by decide) ?_
  refine z_istore_n (lv' := [(1, .int 0), (0, .ref p)]) dX3_soft_1 rfl (Nat.le_of_ble_eq_true rfl) rfl ?_
  refine z_iconst 0 dX3_soft_2 (by decide) ?_
  refine z_istore_n (lv' := [(2, .int 0), (1, .int 0), (0, .ref p)]) dX3_soft_3 rfl (Nat.le_of_ble_eq_true rfl) rfl ?_
  have loop4 : ∀ (n : Nat) (k : Nat) (s : Int32), k + n = Y → ssoft m p Y = sfold (fun k s => if aat 8 (m (p + 1)) (Int32.ofNat k) = 0 then s ||| sbit (Int32.ofNat k) else s) n k s → Z (zMB (Qi (ssoft m p Y) (m)) 1 MX3_soft) 4 [(0, .ref p), (1, .int s), (2, .int (Int32.ofNat k))] [] (hp m) 0 0 := by
    intro n
    induction n with
    | zero =>
      intro k s hk hr
      refine z_iload_n 2 dX3_soft_4 rfl rfl ?_
      refine z_aload_n 0 dX3_soft_5 rfl rfl ?_
      refine y_getI fX3_9 dX3_soft_6 hP.1 rfl ?_
      refine z_icmp_ge 36 dX3_soft_9 (by decide) (fun c_1 => ?_) (fun c_1 => ?_)
      · refine z_iload_n 1 dX3_soft_36 rfl rfl ?_
        exact y_iret dX3_soft_37 rfl hr.symm rfl
      · exact (dz rfl hY (by omega) (by omega) c_1).elim
    | succ n ih4 =>
      intro k s hk hr
      refine z_iload_n 2 dX3_soft_4 rfl rfl ?_
      refine z_aload_n 0 dX3_soft_5 rfl rfl ?_
      refine y_getI fX3_9 dX3_soft_6 hP.1 rfl ?_
      refine z_icmp_ge 36 dX3_soft_9 (by decide) (fun c_2 => ?_) (fun c_2 => ?_)
      · exact (ds rfl hY (by omega) (by omega) c_2).elim
      · refine z_aload_n 0 dX3_soft_12 rfl rfl ?_
        refine y_getR fX3_24 dX3_soft_13 hP.1 rfl ?_
        refine z_iload_n 2 dX3_soft_16 rfl rfl ?_
        refine y_Si [_, _] _ kX3_118 (c_at hP.2.1 (by decide)) dX3_soft_17 rfl rfl (Nat.le_of_ble_eq_true rfl) (Nat.le_of_ble_eq_true rfl) ⟨Nat.zero_le _, Nat.zero_le _⟩ ?_
        refine z_if_ne 30 dX3_soft_20 (by decide) (fun c_3 => ?_) (fun c_3 => ?_)
        · obtain ⟨v_4, e_4⟩ : ∃ y : Int32, y = (Int32.ofNat k) + 1 := ⟨_, rfl⟩
          refine z_iinc (lv' := [(2, .int v_4), (0, .ref p), (1, .int s)]) 2 v_4 dX3_soft_30 rfl (by rw [e_4]; rfl) (Nat.le_of_ble_eq_true rfl) rfl ?_
          refine z_goto 4 dX3_soft_33 (by decide) ?_
          obtain rfl : v_4 = Int32.ofNat (k + 1) := e_4.trans (nat_succ k)
          refine z_sub [1,2,0] rfl ?_
          exact ih4 (k + 1) _ (by omega) (hr.trans (congrArg (sfold _ n (k + 1)) (by simp [c_2, c_3])))
        · refine z_iload_n 1 dX3_soft_23 rfl rfl ?_
          refine z_iload_n 2 dX3_soft_24 rfl rfl ?_
          refine y_Si [_] _ kX3_122 c_bit dX3_soft_25 rfl rfl (Nat.le_of_ble_eq_true rfl) (Nat.le_of_ble_eq_true rfl) ⟨Nat.zero_le _, Nat.zero_le _⟩ ?_
          refine z_ior dX3_soft_28 ?_
          refine z_topi (fun v_5 e_5 => ?_)
          refine z_istore_n (lv' := [(1, .int v_5), (0, .ref p), (2, .int (Int32.ofNat k))]) dX3_soft_29 rfl (Nat.le_of_ble_eq_true rfl) rfl ?_
          obtain ⟨v_6, e_6⟩ : ∃ y : Int32, y = (Int32.ofNat k) + 1 := ⟨_, rfl⟩
          refine z_iinc (lv' := [(2, .int v_6), (1, .int v_5), (0, .ref p)]) 2 v_6 dX3_soft_30 rfl (by rw [e_6]; rfl) (Nat.le_of_ble_eq_true rfl) rfl ?_
          refine z_goto 4 dX3_soft_33 (by decide) ?_
          obtain rfl : v_6 = Int32.ofNat (k + 1) := e_6.trans (nat_succ k)
          refine z_sub [2,1,0] rfl ?_
          exact ih4 (k + 1) _ (by omega) (hr.trans (congrArg (sfold _ n (k + 1)) (by simp [c_2, c_3, e_5])))
  refine z_sub [2,1,0] rfl ?_
  exact loop4 Y 0 _ (by omega) rfl
set_option maxRecDepth 100000 in
set_option maxHeartbeats 4000000 in
theorem c_sf {m : zmem} {p D Y : Nat} (hP : isPar p) (hD : m p 1 = Int32.ofNat D) (hD7 : D ≤ 7) (hY : m p 0 = Int32.ofNat Y) (hY8 : Y ≤ 8) : Ei MX3_softAndFree 2 [.ref p] m (ssf m p D Y) (m) := by
  refine Ei.of (by decide) (Nat.le_of_ble_eq_true rfl) ?_
  show Z _ 0 [(0, .ref p)] _ _ _ _
  refine z_aload_n 0 dX3_softAndFree_0 rfl rfl ?_
  refine y_Vi [] _ kX3_129 (c_soft hP hY hY8) rfl hP.1 dX3_softAndFree_1 rfl rfl (Nat.le_of_ble_eq_true rfl) (Nat.le_of_ble_eq_true rfl) ⟨Nat.zero_le _, Nat.zero_le _⟩ ?_
  refine z_aload_n 0 dX3_softAndFree_4 rfl rfl ?_
  refine y_Vi [] _ kX3_132 (c_taken hP hD hD7) rfl hP.1 dX3_softAndFree_5 rfl rfl (Nat.le_of_ble_eq_true rfl) (Nat.le_of_ble_eq_true rfl) ⟨Nat.zero_le _, Nat.zero_le _⟩ ?_
  refine z_iconst (-1) dX3_softAndFree_8 (by decide) ?_
  refine z_ixor dX3_softAndFree_9 ?_
  refine z_iand dX3_softAndFree_10 ?_
  exact y_iret dX3_softAndFree_11 rfl rfl rfl
set_option maxRecDepth 100000 in
set_option maxHeartbeats 4000000 in
theorem c_bless {m : zmem} {p D : Nat} (hP : isPar p) (hD : m p 1 = Int32.ofNat D) (hD7 : D ≤ 7) : Ei MX3_boardless 3 [.ref p] m (sbless m p D) (m) := by
  refine Ei.of (by decide) (Nat.le_of_ble_eq_true rfl) ?_
  show Z _ 0 [(0, .ref p)] _ _ _ _
  refine z_iconst 0 dX3_boardless_0 (by decide) ?_
  refine z_istore_n (lv' := [(1, .int 0), (0, .ref p)]) dX3_boardless_1 rfl (Nat.le_of_ble_eq_true rfl) rfl ?_
  refine z_iconst 0 dX3_boardless_2 (by decide) ?_
  refine z_istore_n (lv' := [(2, .int 0), (1, .int 0), (0, .ref p)]) dX3_boardless_3 rfl (Nat.le_of_ble_eq_true rfl) rfl ?_
  have loop4 : ∀ (n : Nat) (k : Nat) (s : Int32), k + n = D → sfold (fun k s => if aat 7 (m (p + 6)) (Int32.ofNat k) = 0 then s ||| sbit (Int32.ofNat k) else s) D 0 0 = sfold (fun k s => if aat 7 (m (p + 6)) (Int32.ofNat k) = 0 then s ||| sbit (Int32.ofNat k) else s) n k s → Z (zMB (Qi (sbless m p D) (m)) 3 MX3_boardless) 4 [(0, .ref p), (1, .int s), (2, .int (Int32.ofNat k))] [] (hp m) 0 0 := by
    intro n
    induction n with
    | zero =>
      intro k s hk hr
      refine z_iload_n 2 dX3_boardless_4 rfl rfl ?_
      refine z_aload_n 0 dX3_boardless_5 rfl rfl ?_
      refine y_getI fX3_15 dX3_boardless_6 hP.1 rfl ?_
      refine z_icmp_ge 36 dX3_boardless_9 (by decide) (fun c_1 => ?_) (fun c_1 => ?_)
      · refine z_iload_n 1 dX3_boardless_36 rfl rfl ?_
        refine z_aload_n 0 dX3_boardless_37 rfl rfl ?_
        refine y_Vi [] _ kX3_135 (c_waiting hP hD hD7) rfl hP.1 dX3_boardless_38 rfl rfl (Nat.le_of_ble_eq_true rfl) (Nat.le_of_ble_eq_true rfl) ⟨Nat.zero_le _, Nat.zero_le _⟩ ?_
        refine z_iand dX3_boardless_41 ?_
        exact y_iret dX3_boardless_42 rfl (congrArg (· &&& swait m p D) hr.symm) rfl
      · exact (dz rfl hD (by omega) (by omega) c_1).elim
    | succ n ih4 =>
      intro k s hk hr
      refine z_iload_n 2 dX3_boardless_4 rfl rfl ?_
      refine z_aload_n 0 dX3_boardless_5 rfl rfl ?_
      refine y_getI fX3_15 dX3_boardless_6 hP.1 rfl ?_
      refine z_icmp_ge 36 dX3_boardless_9 (by decide) (fun c_2 => ?_) (fun c_2 => ?_)
      · exact (ds rfl hD (by omega) (by omega) c_2).elim
      · refine z_aload_n 0 dX3_boardless_12 rfl rfl ?_
        refine y_getR fX3_40 dX3_boardless_13 hP.1 rfl ?_
        refine z_iload_n 2 dX3_boardless_16 rfl rfl ?_
        refine y_Si [_, _] _ kX3_118 (c_at hP.2.2.2.2.2.2.1 (by decide)) dX3_boardless_17 rfl rfl (Nat.le_of_ble_eq_true rfl) (Nat.le_of_ble_eq_true rfl) ⟨Nat.zero_le _, Nat.zero_le _⟩ ?_
        refine z_if_ne 30 dX3_boardless_20 (by decide) (fun c_3 => ?_) (fun c_3 => ?_)
        · obtain ⟨v_4, e_4⟩ : ∃ y : Int32, y = (Int32.ofNat k) + 1 := ⟨_, rfl⟩
          refine z_iinc (lv' := [(2, .int v_4), (0, .ref p), (1, .int s)]) 2 v_4 dX3_boardless_30 rfl (by rw [e_4]; rfl) (Nat.le_of_ble_eq_true rfl) rfl ?_
          refine z_goto 4 dX3_boardless_33 (by decide) ?_
          obtain rfl : v_4 = Int32.ofNat (k + 1) := e_4.trans (nat_succ k)
          refine z_sub [1,2,0] rfl ?_
          exact ih4 (k + 1) _ (by omega) (hr.trans (congrArg (sfold _ n (k + 1)) (by simp [c_2, c_3])))
        · refine z_iload_n 1 dX3_boardless_23 rfl rfl ?_
          refine z_iload_n 2 dX3_boardless_24 rfl rfl ?_
          refine y_Si [_] _ kX3_122 c_bit dX3_boardless_25 rfl rfl (Nat.le_of_ble_eq_true rfl) (Nat.le_of_ble_eq_true rfl) ⟨Nat.zero_le _, Nat.zero_le _⟩ ?_
          refine z_ior dX3_boardless_28 ?_
          refine z_topi (fun v_5 e_5 => ?_)
          refine z_istore_n (lv' := [(1, .int v_5), (0, .ref p), (2, .int (Int32.ofNat k))]) dX3_boardless_29 rfl (Nat.le_of_ble_eq_true rfl) rfl ?_
          obtain ⟨v_6, e_6⟩ : ∃ y : Int32, y = (Int32.ofNat k) + 1 := ⟨_, rfl⟩
          refine z_iinc (lv' := [(2, .int v_6), (1, .int v_5), (0, .ref p)]) 2 v_6 dX3_boardless_30 rfl (by rw [e_6]; rfl) (Nat.le_of_ble_eq_true rfl) rfl ?_
          refine z_goto 4 dX3_boardless_33 (by decide) ?_
          obtain rfl : v_6 = Int32.ofNat (k + 1) := e_6.trans (nat_succ k)
          refine z_sub [2,1,0] rfl ?_
          exact ih4 (k + 1) _ (by omega) (hr.trans (congrArg (sfold _ n (k + 1)) (by simp [c_2, c_3, e_5])))
  refine z_sub [2,1,0] rfl ?_
  exact loop4 D 0 _ (by omega) rfl
set_option maxRecDepth 100000 in
set_option maxHeartbeats 4000000 in
theorem c_ranks {m : zmem} {p D : Nat} {set : Int32} (hP : isPar p) (hD : m p 1 = Int32.ofNat D) (hD7 : D ≤ 7) : Ei MX3_ranksOf 1 [.ref p, .int set] m (sranks m p D set) (m) := by
  refine Ei.of (by decide) (Nat.le_of_ble_eq_true rfl) ?_
  show Z _ 0 [(0, .ref p), (1, .int set)] _ _ _ _
  refine z_iconst 0 dX3_ranksOf_0 (by decide) ?_
  refine z_istore_n (lv' := [(2, .int 0), (0, .ref p), (1, .int set)]) dX3_ranksOf_1 rfl (Nat.le_of_ble_eq_true rfl) rfl ?_
  refine z_iconst 0 dX3_ranksOf_2 (by decide) ?_
  refine z_istore_n (lv' := [(3, .int 0), (2, .int 0), (0, .ref p), (1, .int set)]) dX3_ranksOf_3 rfl (Nat.le_of_ble_eq_true rfl) rfl ?_
  have loop4 : ∀ (n : Nat) (k : Nat) (s : Int32), k + n = D → sranks m p D set = sfold (fun k s => if shas set (Int32.ofNat k) = 0 then s else s + aat 7 (m (p + 2)) (Int32.ofNat k)) n k s → Z (zMB (Qi (sranks m p D set) (m)) 1 MX3_ranksOf) 4 [(0, .ref p), (1, .int set), (2, .int s), (3, .int (Int32.ofNat k))] [] (hp m) 0 0 := by
    intro n
    induction n with
    | zero =>
      intro k s hk hr
      refine z_iload_n 3 dX3_ranksOf_4 rfl rfl ?_
      refine z_aload_n 0 dX3_ranksOf_5 rfl rfl ?_
      refine y_getI fX3_15 dX3_ranksOf_6 hP.1 rfl ?_
      refine z_icmp_ge 37 dX3_ranksOf_9 (by decide) (fun c_1 => ?_) (fun c_1 => ?_)
      · refine z_iload_n 2 dX3_ranksOf_37 rfl rfl ?_
        exact y_iret dX3_ranksOf_38 rfl hr.symm rfl
      · exact (dz rfl hD (by omega) (by omega) c_1).elim
    | succ n ih4 =>
      intro k s hk hr
      refine z_iload_n 3 dX3_ranksOf_4 rfl rfl ?_
      refine z_aload_n 0 dX3_ranksOf_5 rfl rfl ?_
      refine y_getI fX3_15 dX3_ranksOf_6 hP.1 rfl ?_
      refine z_icmp_ge 37 dX3_ranksOf_9 (by decide) (fun c_2 => ?_) (fun c_2 => ?_)
      · exact (ds rfl hD (by omega) (by omega) c_2).elim
      · refine z_iload_n 1 dX3_ranksOf_12 rfl rfl ?_
        refine z_iload_n 3 dX3_ranksOf_13 rfl rfl ?_
        refine y_Si [_, _] _ kX3_138 c_has dX3_ranksOf_14 rfl rfl (Nat.le_of_ble_eq_true rfl) (Nat.le_of_ble_eq_true rfl) ⟨Nat.zero_le _, Nat.zero_le _⟩ ?_
        refine z_if_eq 31 dX3_ranksOf_17 (by decide) (fun c_3 => ?_) (fun c_3 => ?_)
        · obtain ⟨v_4, e_4⟩ : ∃ y : Int32, y = (Int32.ofNat k) + 1 := ⟨_, rfl⟩
          refine z_iinc (lv' := [(3, .int v_4), (0, .ref p), (1, .int set), (2, .int s)]) 3 v_4 dX3_ranksOf_31 rfl (by rw [e_4]; rfl) (Nat.le_of_ble_eq_true rfl) rfl ?_
          refine z_goto 4 dX3_ranksOf_34 (by decide) ?_
          obtain rfl : v_4 = Int32.ofNat (k + 1) := e_4.trans (nat_succ k)
          refine z_sub [1,2,3,0] rfl ?_
          exact ih4 (k + 1) _ (by omega) (hr.trans (congrArg (sfold _ n (k + 1)) (by simp [c_2, c_3])))
        · refine z_iload_n 2 dX3_ranksOf_20 rfl rfl ?_
          refine z_aload_n 0 dX3_ranksOf_21 rfl rfl ?_
          refine y_getR fX3_28 dX3_ranksOf_22 hP.1 rfl ?_
          refine z_iload_n 3 dX3_ranksOf_25 rfl rfl ?_
          refine y_Si [_, _] _ kX3_118 (c_at hP.2.2.1 (by decide)) dX3_ranksOf_26 rfl rfl (Nat.le_of_ble_eq_true rfl) (Nat.le_of_ble_eq_true rfl) ⟨Nat.zero_le _, Nat.zero_le _⟩ ?_
          refine z_iadd dX3_ranksOf_29 ?_
          refine z_topi (fun v_5 e_5 => ?_)
          refine z_istore_n (lv' := [(2, .int v_5), (0, .ref p), (1, .int set), (3, .int (Int32.ofNat k))]) dX3_ranksOf_30 rfl (Nat.le_of_ble_eq_true rfl) rfl ?_
          obtain ⟨v_6, e_6⟩ : ∃ y : Int32, y = (Int32.ofNat k) + 1 := ⟨_, rfl⟩
          refine z_iinc (lv' := [(3, .int v_6), (2, .int v_5), (0, .ref p), (1, .int set)]) 3 v_6 dX3_ranksOf_31 rfl (by rw [e_6]; rfl) (Nat.le_of_ble_eq_true rfl) rfl ?_
          refine z_goto 4 dX3_ranksOf_34 (by decide) ?_
          obtain rfl : v_6 = Int32.ofNat (k + 1) := e_6.trans (nat_succ k)
          refine z_sub [2,3,1,0] rfl ?_
          exact ih4 (k + 1) _ (by omega) (hr.trans (congrArg (sfold _ n (k + 1)) (by simp [c_2, c_3, e_5])))
  refine z_sub [2,3,1,0] rfl ?_
  exact loop4 D 0 _ (by omega) rfl
set_option maxRecDepth 100000 in
set_option maxHeartbeats 4000000 in
theorem c_worth {m : zmem} {p : Nat} {c d : Int32} (hP : isPar p) : Ei MX3_worth 1 [.ref p, .int c, .int d] m (sworth m p c d) (m) := by
  refine Ei.of (by decide) (Nat.le_of_ble_eq_true rfl) ?_
  show Z _ 0 [(0, .ref p), (1, .int c), (2, .int d)] _ _ _ _
  refine z_iload_n 1 dX3_worth_0 rfl rfl ?_
  by_cases c_1 : c = 0
  · refine z_itop c_1 ?_
    refine z_tableIn 32 dX3_worth_1 (by decide) (by decide) rfl (by decide) ?_
    refine z_aload_n 0 dX3_worth_32 rfl rfl ?_
    refine y_getR fX3_28 dX3_worth_33 hP.1 rfl ?_
    refine z_iload_n 2 dX3_worth_36 rfl rfl ?_
    refine y_Si [_, _] _ kX3_118 (c_at hP.2.2.1 (by decide)) dX3_worth_37 rfl rfl (Nat.le_of_ble_eq_true rfl) (Nat.le_of_ble_eq_true rfl) ⟨Nat.zero_le _, Nat.zero_le _⟩ ?_
    exact y_iret dX3_worth_40 rfl (by simp [sworth, c_1]) rfl
  · skip
    by_cases c_2 : c = 1
    · refine z_itop c_2 ?_
      refine z_tableIn 41 dX3_worth_1 (by decide) (by decide) rfl (by decide) ?_
      refine z_aload_n 0 dX3_worth_41 rfl rfl ?_
      refine y_getR fX3_31 dX3_worth_42 hP.1 rfl ?_
      refine z_iload_n 2 dX3_worth_45 rfl rfl ?_
      refine y_Si [_, _] _ kX3_118 (c_at hP.2.2.2.1 (by decide)) dX3_worth_46 rfl rfl (Nat.le_of_ble_eq_true rfl) (Nat.le_of_ble_eq_true rfl) ⟨Nat.zero_le _, Nat.zero_le _⟩ ?_
      exact y_iret dX3_worth_49 rfl (by simp [sworth, c_1, c_2]) rfl
    · skip
      by_cases c_3 : c = 2
      · refine z_itop c_3 ?_
        refine z_tableIn 50 dX3_worth_1 (by decide) (by decide) rfl (by decide) ?_
        refine z_aload_n 0 dX3_worth_50 rfl rfl ?_
        refine y_getR fX3_37 dX3_worth_51 hP.1 rfl ?_
        refine z_iload_n 2 dX3_worth_54 rfl rfl ?_
        refine y_Si [_, _] _ kX3_118 (c_at hP.2.2.2.2.2.1 (by decide)) dX3_worth_55 rfl rfl (Nat.le_of_ble_eq_true rfl) (Nat.le_of_ble_eq_true rfl) ⟨Nat.zero_le _, Nat.zero_le _⟩ ?_
        exact y_iret dX3_worth_58 rfl (by simp [sworth, c_1, c_2, c_3]) rfl
      · skip
        by_cases c_4 : c = 3
        · refine z_itop c_4 ?_
          refine z_tableIn 59 dX3_worth_1 (by decide) (by decide) rfl (by decide) ?_
          refine z_bipush 9 dX3_worth_59 (by decide) ?_
          refine z_aload_n 0 dX3_worth_61 rfl rfl ?_
          refine y_getR fX3_34 dX3_worth_62 hP.1 rfl ?_
          refine z_iload_n 2 dX3_worth_65 rfl rfl ?_
          refine y_Si [_, _] _ kX3_118 (c_at hP.2.2.2.2.1 (by decide)) dX3_worth_66 rfl rfl (Nat.le_of_ble_eq_true rfl) (Nat.le_of_ble_eq_true rfl) ⟨Nat.zero_le _, Nat.zero_le _⟩ ?_
          refine z_isub dX3_worth_69 ?_
          exact y_iret dX3_worth_70 rfl (by simp [sworth, c_1, c_2, c_3, c_4]) rfl
        · skip
          refine z_tableOut 71 dX3_worth_1 (by have h0 : ¬ c.toInt = 0 := fun h => c_1 (Int32.toInt_inj.mp (h.trans rfl)); have h1 : ¬ c.toInt = 1 := fun h => c_2 (Int32.toInt_inj.mp (h.trans rfl)); have h2 : ¬ c.toInt = 2 := fun h => c_3 (Int32.toInt_inj.mp (h.trans rfl)); have h3 : ¬ c.toInt = 3 := fun h => c_4 (Int32.toInt_inj.mp (h.trans rfl)); omega) (by decide) ?_
          refine z_iconst 0 dX3_worth_71 (by decide) ?_
          exact y_iret dX3_worth_72 rfl (by simp [sworth, c_1, c_2, c_3, c_4]) rfl
set_option maxRecDepth 100000 in
set_option maxHeartbeats 4000000 in
theorem c_claim {m : zmem} {p r C : Nat} {d : Int32} (hP : isPar p) (hR : isCus r) (hC : m r 1 = Int32.ofNat C) (hC4 : C ≤ 4) : El MX3_claim 2 [.ref p, .ref r, .int d] m (sclaim m p r C d) (m) := by
  refine El.of (by decide) (Nat.le_of_ble_eq_true rfl) ?_
  show Z _ 0 [(0, .ref p), (1, .ref r), (2, .int d)] _ _ _ _
  refine z_lconst 0 dX3_claim_0 (by decide) ?_
  refine z_lstore_n (lv' := [(3, .long 0), (0, .ref p), (1, .ref r), (2, .int d)]) dX3_claim_1 rfl (Nat.le_of_ble_eq_true rfl) rfl ?_
  refine z_iconst 0 dX3_claim_2 (by decide) ?_
  refine z_istore (lv' := [(5, .int 0), (3, .long 0), (0, .ref p), (1, .ref r), (2, .int d)]) dX3_claim_3 (Nat.le_of_ble_eq_true rfl) rfl ?_
  have loop5 : ∀ (n : Nat) (k : Nat) (s : Int64), k + n = C → sfold (fun k s => s * 10000 + (sworth m p (aat 4 (m (r + 1)) (Int32.ofNat k)) d).toInt64) C 0 0 = sfold (fun k s => s * 10000 + (sworth m p (aat 4 (m (r + 1)) (Int32.ofNat k)) d).toInt64) n k s → Z (zMB (Ql (sclaim m p r C d) (m)) 2 MX3_claim) 5 [(0, .ref p), (1, .ref r), (2, .int d), (3, .long s), (5, .int (Int32.ofNat k))] [] (hp m) 0 0 := by
    intro n
    induction n with
    | zero =>
      intro k s hk hr
      refine z_iload 4 dX3_claim_5 rfl ?_
      refine z_aload_n 1 dX3_claim_7 rfl rfl ?_
      refine y_getI fX3_142 dX3_claim_8 hR.1 rfl ?_
      refine z_icmp_ge 42 dX3_claim_11 (by decide) (fun c_1 => ?_) (fun c_1 => ?_)
      · refine z_lload_n 3 dX3_claim_42 rfl rfl ?_
        refine z_ldc2 8 dX3_claim_43 nX3_155 ?_
        refine z_lmul dX3_claim_46 ?_
        refine z_ldc2 7 dX3_claim_47 nX3_157 ?_
        refine z_ladd dX3_claim_50 ?_
        refine z_iload_n 2 dX3_claim_51 rfl rfl ?_
        refine z_i2l dX3_claim_52 ?_
        refine z_lsub dX3_claim_53 ?_
        exact y_lret dX3_claim_54 rfl (by rw [sclaim, hr]; rfl) rfl
      · exact (dz rfl hC (by omega) (by omega) c_1).elim
    | succ n ih5 =>
      intro k s hk hr
      refine z_iload 4 dX3_claim_5 rfl ?_
      refine z_aload_n 1 dX3_claim_7 rfl rfl ?_
      refine y_getI fX3_142 dX3_claim_8 hR.1 rfl ?_
      refine z_icmp_ge 42 dX3_claim_11 (by decide) (fun c_2 => ?_) (fun c_2 => ?_)
      · exact (ds rfl hC (by omega) (by omega) c_2).elim
      · refine z_lload_n 3 dX3_claim_14 rfl rfl ?_
        refine z_ldc2 10000 dX3_claim_15 nX3_147 ?_
        refine z_lmul dX3_claim_18 ?_
        refine z_aload_n 0 dX3_claim_19 rfl rfl ?_
        refine z_aload_n 1 dX3_claim_20 rfl rfl ?_
        refine y_getR fX3_149 dX3_claim_21 hR.1 rfl ?_
        refine z_iload 4 dX3_claim_24 rfl ?_
        refine y_Si [_, _] _ kX3_118 (c_at hR.2 (by decide)) dX3_claim_26 rfl rfl (Nat.le_of_ble_eq_true rfl) (Nat.le_of_ble_eq_true rfl) ⟨Nat.zero_le _, Nat.zero_le _⟩ ?_
        refine z_iload_n 2 dX3_claim_29 rfl rfl ?_
        refine y_Vi [_, _] _ kX3_152 (c_worth hP) rfl hP.1 dX3_claim_30 rfl rfl (Nat.le_of_ble_eq_true rfl) (Nat.le_of_ble_eq_true rfl) ⟨Nat.zero_le _, Nat.zero_le _⟩ ?_
        refine z_i2l dX3_claim_33 ?_
        refine z_ladd dX3_claim_34 ?_
        refine z_topl (fun v_3 e_3 => ?_)
        refine z_lstore_n (lv' := [(3, .long v_3), (0, .ref p), (1, .ref r), (2, .int d), (5, .int (Int32.ofNat k))]) dX3_claim_35 rfl (Nat.le_of_ble_eq_true rfl) rfl ?_
        obtain ⟨v_4, e_4⟩ : ∃ y : Int32, y = (Int32.ofNat k) + 1 := ⟨_, rfl⟩
        refine z_iinc (lv' := [(5, .int v_4), (3, .long v_3), (0, .ref p), (1, .ref r), (2, .int d)]) 4 v_4 dX3_claim_36 rfl (by rw [e_4]; rfl) (Nat.le_of_ble_eq_true rfl) rfl ?_
        refine z_goto 5 dX3_claim_39 (by decide) ?_
        obtain rfl : v_4 = Int32.ofNat (k + 1) := e_4.trans (nat_succ k)
        refine z_sub [2,3,4,1,0] rfl ?_
        exact ih5 (k + 1) _ (by omega) (hr.trans (congrArg (sfold _ n (k + 1)) (by simp [c_2, e_3])))
  refine z_sub [2,3,4,1,0] rfl ?_
  exact loop5 C 0 _ (by omega) rfl
set_option maxRecDepth 100000 in
set_option maxHeartbeats 4000000 in
theorem c_urg {m : zmem} {p r C : Nat} {d : Int32} (hP : isPar p) (hR : isCus r) (hC : m r 1 = Int32.ofNat C) (hC4 : C ≤ 4) : El MX3_urgentClaim 3 [.ref p, .ref r, .int d] m (surg m p r C d) (m) := by
  refine El.of (by decide) (Nat.le_of_ble_eq_true rfl) ?_
  show Z _ 0 [(0, .ref p), (1, .ref r), (2, .int d)] _ _ _ _
  refine z_aload_n 0 dX3_urgentClaim_0 rfl rfl ?_
  refine z_aload_n 1 dX3_urgentClaim_1 rfl rfl ?_
  refine z_iload_n 2 dX3_urgentClaim_2 rfl rfl ?_
  refine y_Vl [_, _] _ kX3_159 (c_claim hP hR hC hC4) rfl hP.1 dX3_urgentClaim_3 rfl rfl (Nat.le_of_ble_eq_true rfl) (Nat.le_of_ble_eq_true rfl) ⟨Nat.zero_le _, Nat.zero_le _⟩ ?_
  refine z_topl (fun v_1 e_1 => ?_)
  refine z_lstore_n (lv' := [(3, .long v_1), (0, .ref p), (1, .ref r), (2, .int d)]) dX3_urgentClaim_6 rfl (Nat.le_of_ble_eq_true rfl) rfl ?_
  refine z_aload_n 1 dX3_urgentClaim_7 rfl rfl ?_
  refine y_getR fX3_40 dX3_urgentClaim_8 hP.1 rfl ?_
  refine z_iload_n 3 dX3_urgentClaim_11 rfl rfl ?_
  refine y_Si [_, _] _ kX3_118 (c_at hP.2.2.2.2.2.2.1 (by decide)) dX3_urgentClaim_12 rfl rfl (Nat.le_of_ble_eq_true rfl) (Nat.le_of_ble_eq_true rfl) ⟨Nat.zero_le _, Nat.zero_le _⟩ ?_
  refine z_if_ne 26 dX3_urgentClaim_15 (by decide) (fun c_2 => ?_) (fun c_2 => ?_)
  · refine z_lload_n 0 dX3_urgentClaim_26 rfl rfl ?_
    exact y_lret dX3_urgentClaim_27 rfl (by simp [surg, c_2, e_1]) rfl
  · refine z_lload_n 0 dX3_urgentClaim_18 rfl rfl ?_
    refine z_ldc2 1000000000000000000 dX3_urgentClaim_19 nX3_163 ?_
    refine z_ladd dX3_urgentClaim_22 ?_
    refine z_goto 27 dX3_urgentClaim_23 (by decide) ?_
    exact y_lret dX3_urgentClaim_27 rfl (by simp [surg, c_2, e_1]) rfl
