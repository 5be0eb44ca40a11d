/-! the text's reader -/
theorem mset_self (m : zmem) (k j : Nat) : mset m k j (m k j) = m := by
  funext a b
  by_cases h : a = k ∧ b = j
  · obtain ⟨rfl, rfl⟩ := h
    exact mset_eq _ _ _ _
  · exact mset_ne _ h
theorem mset_mset (m : zmem) (k j : Nat) (v w : Int32) : mset (mset m k j v) k j w = mset m k j w := by
  funext a b
  by_cases h : a = k ∧ b = j
  · obtain ⟨rfl, rfl⟩ := h
    rw [mset_eq, mset_eq]
  · rw [mset_ne _ h, mset_ne _ h, mset_ne _ h]
def tby (m : zmem) (i : Int32) : Int32 := if i < 0 then -1 else if m 1 1 ≤ i then -1 else if 400 ≤ i then -1 else m 2 i.toNatClampNeg &&& 255
theorem tby_pl (m : zmem) (v i : Int32) : tby (mset m 1 2 v) i = tby m i := by simp [tby, mset]
def sappend (m : zmem) (v : Int32) : zmem := if m 1 1 < 0 then m else if m 1 1 < 400 then mset (mset m 2 (m 1 1).toNatClampNeg (vp_nar .byte v.toInt8.toInt32)) 1 1 (m 1 1 + 1) else m
def sbegin (m : zmem) : zmem := mset (mset (mset m 1 2 0) 1 3 0) 1 4 (-1)
def sblame (m : zmem) (num wh : Int32) : zmem := if m 1 3 = 0 then mset (mset m 1 3 num) 1 4 wh else m
/-- from k on, at most n, as long as c -/
def sskip (c : Nat → Bool) : Nat → Nat → Nat
  | 0, k => k
  | n + 1, k => if c k then sskip c n (k + 1) else k
theorem sskip_le (c : Nat → Bool) : ∀ n k, k ≤ sskip c n k ∧ sskip c n k ≤ k + n := by
  intro n
  induction n with
  | zero => intro k; exact ⟨Nat.le_refl _, Nat.le_refl _⟩
  | succ n ih =>
    intro k
    unfold sskip
    split
    · have := ih (k + 1); omega
    · omega
/-- all from k on, n of them -/
def sall (c : Nat → Bool) : Nat → Nat → Bool
  | 0, _ => true
  | n + 1, k => if c k then sall c n (k + 1) else false
def sblk (t : Int32 → Int32) (L P : Nat) : Nat := sskip (fun k => decide (t (Int32.ofNat k) = 32)) (L - P) P
theorem sblk_le {t : Int32 → Int32} {L P : Nat} (h : P ≤ L) : P ≤ sblk t L P ∧ sblk t L P ≤ L := by
  have := sskip_le (fun k => decide (t (Int32.ofNat k) = 32)) (L - P) P
  unfold sblk
  omega
def spl (m : zmem) (k : Nat) : zmem := mset m 1 2 (Int32.ofNat k)
def sgo (m : zmem) (t : Int32 → Int32) (L P : Nat) : Int32 := if ¬ m 1 3 = 0 then 0 else if Int32.ofNat L ≤ Int32.ofNat (sblk t L P) then 0 else 1
def sstop (m : zmem) (t : Int32 → Int32) (L P : Nat) : zmem := if ¬ t (Int32.ofNat (sblk t L P)) = 59 then sblame (spl m (sblk t L P)) 1 (Int32.ofNat (sblk t L P)) else spl m (sblk t L P + 1)
def swend (t : Int32 → Int32) (L P : Nat) : Nat := sskip (fun k => decide (¬ t (Int32.ofNat k) < 97 ∧ ¬ 122 < t (Int32.ofNat k))) (L - P) P
def zln (i : Nat) : Nat := zlen.getD i 0
def swc (t : Int32 → Int32) (P i k : Nat) : Bool := decide (t (Int32.ofNat P + Int32.ofNat k) = zchr i (Int32.ofNat k))
def sword (t : Int32 → Int32) (L P i : Nat) : Bool := decide (Int32.ofNat (swend t L P) - Int32.ofNat P = Int32.ofNat (zln i)) && sall (swc t P i) (zln i) 0
def swordi (t : Int32 → Int32) (L P i : Nat) : Int32 := if sword t L P i then 1 else 0
def swordm (m : zmem) (t : Int32 → Int32) (L P i : Nat) : zmem := if sword t L P i then spl m (swend t L P) else m
def snum (t : Int32 → Int32) (F : Nat) : Nat → Nat → Int32 → Nat × Int32
  | 0, k, v => (k, v)
  | n + 1, k, v => if t (Int32.ofNat k) < 48 then (k, v) else if 57 < t (Int32.ofNat k) then (k, v) else snum t F n (k + 1) (if 3 ≤ Int32.ofNat k - Int32.ofNat F then v else v * 10 + t (Int32.ofNat k) - 48)
def snumr (t : Int32 → Int32) (L P : Nat) : Nat × Int32 := snum t (sblk t L P) (L - sblk t L P) (sblk t L P) 0
def snumb (m : zmem) (F E : Nat) (v lo hi : Int32) : zmem := if ¬ Int32.ofNat E = Int32.ofNat F then (if 3 < Int32.ofNat E - Int32.ofNat F then sblame (spl m E) 2 (Int32.ofNat F) else if v < lo then sblame (spl m E) 2 (Int32.ofNat F) else if v ≤ hi then spl m E else sblame (spl m E) 2 (Int32.ofNat F)) else sblame (spl m E) 1 (Int32.ofNat F)
def snumm (m : zmem) (t : Int32 → Int32) (L P : Nat) (lo hi : Int32) : zmem := snumb m (sblk t L P) (snumr t L P).1 (snumr t L P).2 lo hi
theorem shr0 (x : Int32) : x >>> ((0 : Int32) &&& 31) = x := by
  have h : (0 : Int32) &&& 31 = 0 := by decide
  rw [h]
  simp
theorem zlen_le {i : Nat} (hi : i < 7) : zln i ≤ 5 := by
  match i, hi with
  | 0, _ => decide
  | 1, _ => decide
  | 2, _ => decide
  | 3, _ => decide
  | 4, _ => decide
  | 5, _ => decide
  | 6, _ => decide
  | i + 7, h => exact absurd h (by omega)
theorem chk_of {k N : Nat} (h : k < N) (hN : N ≤ 5) : ¬ Int32.ofNat k < 0 ∧ Int32.ofNat k < Int32.ofNat N ∧ vp_in (Int32.ofNat k) N := by
  have h1 : (Int32.ofNat k).toInt = k := nat_toInt (by omega)
  have h2 : (Int32.ofNat N).toInt = N := nat_toInt (by omega)
  have h3 : ¬ Int32.ofNat k < 0 := by
    rw [Int32.lt_iff_toInt_lt, h1, show (0 : Int32).toInt = 0 from rfl]
    omega
  have h4 : Int32.ofNat k < Int32.ofNat N := by
    rw [Int32.lt_iff_toInt_lt, h1, h2]
    omega
  refine ⟨h3, h4, vin_of (by omega) h3 ?_⟩
  rw [Int32.le_iff_toInt_le, h1, h2]
  omega
set_option maxRecDepth 100000 in
set_option maxHeartbeats 4000000 in
theorem c_append {m : zmem} {v : Int32} : E0 MX5_append 0 [.ref 1, .int v] m (sappend m v) := by
  refine E0.of (by decide) (Nat.le_of_ble_eq_true rfl) ?_
  show Z _ 0 [(0, .ref 1), (1, .int v)] _ _ _ _
  refine z_aload_n 0 dX5_append_0 rfl rfl ?_
  refine y_getI fX5_15 dX5_append_1 rfl rfl ?_
  refine z_if_lt 19 dX5_append_4 (by decide) (fun c_1 => ?_) (fun c_1 => ?_)
  · exact y_vret dX5_append_19 rfl (by simp [sappend, mset, c_1])
  · refine z_aload_n 0 dX5_append_7 rfl rfl ?_
    refine y_getI fX5_15 dX5_append_8 rfl rfl ?_
    refine z_aload_n 0 dX5_append_11 rfl rfl ?_
    refine y_getR fX5_9 dX5_append_12 rfl rfl ?_
    refine y_alen 400 dX5_append_15 rfl rfl ?_
    refine z_icmp_lt 20 dX5_append_16 (by decide) (fun c_2 => ?_) (fun c_2 => ?_)
    · refine z_aload_n 0 dX5_append_20 rfl rfl ?_
      refine y_getR fX5_9 dX5_append_21 rfl rfl ?_
      refine z_aload_n 0 dX5_append_24 rfl rfl ?_
      refine y_getI fX5_15 dX5_append_25 rfl rfl ?_
      refine z_iload_n 1 dX5_append_28 rfl rfl ?_
      refine z_i2b dX5_append_29 ?_
      refine y_bast dX5_append_30 rfl (vin_of (n := 400) (by decide) c_1 (Int32.not_le.mpr c_2)) ?_
      refine z_aload_n 0 dX5_append_31 rfl rfl ?_
      refine z_dup dX5_append_32 rfl ?_
      refine y_getI fX5_15 dX5_append_33 rfl rfl ?_
      refine z_iconst 1 dX5_append_36 (by decide) ?_
      refine z_iadd dX5_append_37 ?_
      refine y_putI fX5_15 dX5_append_38 rfl rfl ?_
      exact y_vret dX5_append_41 rfl (by simp [sappend, mset, c_1, c_2])
    · exact y_vret dX5_append_19 rfl (by simp [sappend, mset, c_1, c_2])
set_option maxRecDepth 100000 in
set_option maxHeartbeats 4000000 in
theorem c_begin {m : zmem} : E0 MX5_begin 0 [.ref 1] m (sbegin m) := by
  refine E0.of (by decide) (Nat.le_of_ble_eq_true rfl) ?_
  show Z _ 0 [(0, .ref 1)] _ _ _ _
  refine z_aload_n 0 dX5_begin_0 rfl rfl ?_
  refine z_iconst 0 dX5_begin_1 (by decide) ?_
  refine y_putI fX5_19 dX5_begin_2 rfl rfl ?_
  refine z_aload_n 0 dX5_begin_5 rfl rfl ?_
  refine z_iconst 0 dX5_begin_6 (by decide) ?_
  refine y_putI fX5_22 dX5_begin_7 rfl rfl ?_
  refine z_aload_n 0 dX5_begin_10 rfl rfl ?_
  refine z_iconst (-1) dX5_begin_11 (by decide) ?_
  refine y_putI fX5_25 dX5_begin_12 rfl rfl ?_
  exact y_vret dX5_begin_15 rfl rfl
set_option maxRecDepth 100000 in
set_option maxHeartbeats 4000000 in
theorem c_blame {m : zmem} {num wh : Int32} : E0 MX5_blame 0 [.ref 1, .int num, .int wh] m (sblame m num wh) := by
  refine E0.of (by decide) (Nat.le_of_ble_eq_true rfl) ?_
  show Z _ 0 [(0, .ref 1), (1, .int num), (2, .int wh)] _ _ _ _
  refine z_aload_n 0 dX5_blame_0 rfl rfl ?_
  refine y_getI fX5_22 dX5_blame_1 rfl rfl ?_
  refine z_if_eq 8 dX5_blame_4 (by decide) (fun c_1 => ?_) (fun c_1 => ?_)
  · refine z_aload_n 0 dX5_blame_8 rfl rfl ?_
    refine z_iload_n 1 dX5_blame_9 rfl rfl ?_
    refine y_putI fX5_22 dX5_blame_10 rfl rfl ?_
    refine z_aload_n 0 dX5_blame_13 rfl rfl ?_
    refine z_iload_n 2 dX5_blame_14 rfl rfl ?_
    refine y_putI fX5_25 dX5_blame_15 rfl rfl ?_
    exact y_vret dX5_blame_18 rfl (by simp [sblame, c_1])
  · exact y_vret dX5_blame_7 rfl (by simp [sblame, c_1])
set_option maxRecDepth 100000 in
set_option maxHeartbeats 4000000 in
theorem c_byteAt {m : zmem} {i : Int32} : Ei MX5_byteAt 0 [.ref 1, .int i] m (tby m i) (m) := by
  refine Ei.of (by decide) (Nat.le_of_ble_eq_true rfl) ?_
  show Z _ 0 [(0, .ref 1), (1, .int i)] _ _ _ _
  refine z_iload_n 1 dX5_byteAt_0 rfl rfl ?_
  refine z_if_lt 34 dX5_byteAt_1 (by decide) (fun c_1 => ?_) (fun c_1 => ?_)
  · refine z_iconst (-1) dX5_byteAt_34 (by decide) ?_
    exact y_iret dX5_byteAt_35 rfl (by simp [tby, c_1]) rfl
  · refine z_iload_n 1 dX5_byteAt_4 rfl rfl ?_
    refine z_aload_n 0 dX5_byteAt_5 rfl rfl ?_
    refine y_getI fX5_15 dX5_byteAt_6 rfl rfl ?_
    refine z_icmp_ge 34 dX5_byteAt_9 (by decide) (fun c_2 => ?_) (fun c_2 => ?_)
    · refine z_iconst (-1) dX5_byteAt_34 (by decide) ?_
      exact y_iret dX5_byteAt_35 rfl (by simp [tby, c_1, c_2]) rfl
    · refine z_iload_n 1 dX5_byteAt_12 rfl rfl ?_
      refine z_aload_n 0 dX5_byteAt_13 rfl rfl ?_
      refine y_getR fX5_9 dX5_byteAt_14 rfl rfl ?_
      refine y_alen 400 dX5_byteAt_17 rfl rfl ?_
      refine z_icmp_ge 34 dX5_byteAt_18 (by decide) (fun c_3 => ?_) (fun c_3 => ?_)
      · refine z_iconst (-1) dX5_byteAt_34 (by decide) ?_
        exact y_iret dX5_byteAt_35 rfl (by simp [tby, c_1, c_2, c_3]) rfl
      · refine z_aload_n 0 dX5_byteAt_21 rfl rfl ?_
        refine y_getR fX5_9 dX5_byteAt_22 rfl rfl ?_
        refine z_iload_n 1 dX5_byteAt_25 rfl rfl ?_
        refine y_bald dX5_byteAt_26 rfl (vin_of (n := 400) (by decide) c_1 c_3) ?_
        refine z_sipush 255 dX5_byteAt_27 (by decide) ?_
        refine z_iand dX5_byteAt_30 ?_
        refine z_goto 35 dX5_byteAt_31 (by decide) ?_
        exact y_iret dX5_byteAt_35 rfl (by simp [tby, c_1, c_2, c_3]) rfl
set_option maxRecDepth 100000 in
set_option maxHeartbeats 4000000 in
theorem c_skip {m : zmem} {L P : Nat} {t : Int32 → Int32} (ht : tby m = t) (hL : m 1 1 = Int32.ofNat L) (hL4 : L ≤ 400) (hp2 : m 1 2 = Int32.ofNat P) (hPL : P ≤ L) : E0 MX5_skipBlanks 1 [.ref 1] m (spl m (sblk t L P)) := by
  refine E0.of (by decide) (Nat.le_of_ble_eq_true rfl) ?_
  show Z _ 0 [(0, .ref 1)] _ _ _ _
  refine y_mem (m1 := spl m P) (by unfold spl; rw [← hp2]; exact (mset_self m 1 2).symm) ?_
  have loop0 : ∀ (n : Nat) (k : Nat), k + n = L → sblk t L P = sskip (fun k => decide (t (Int32.ofNat k) = 32)) n k → Z (zMB (Q0 (spl m (sblk t L P))) 1 MX5_skipBlanks) 0 [(0, .ref 1)] [] (hp (spl m k)) 0 0 := by
    intro n
    induction n with
    | zero =>
      intro k hk hr
      refine z_aload_n 0 dX5_skipBlanks_0 rfl rfl ?_
      refine y_getI fX5_19 dX5_skipBlanks_1 rfl rfl ?_
      refine z_itop (y := (Int32.ofNat k)) (mset_eq _ _ _ _) ?_
      refine z_aload_n 0 dX5_skipBlanks_4 rfl rfl ?_
      refine y_getI fX5_15 dX5_skipBlanks_5 rfl rfl ?_
      refine z_itop (y := (Int32.ofNat L)) (by simpa [spl, mset] using hL) ?_
      refine z_icmp_ge 37 dX5_skipBlanks_8 (by decide) (fun c_1 => ?_) (fun c_1 => ?_)
      · exact y_vret dX5_skipBlanks_37 rfl (by rw [hr]; simp [sskip, c_1])
      · exact (dz rfl (b := Int32.ofNat L) (N := L) rfl (by omega) (by omega) c_1).elim
    | succ n ih0 =>
      intro k hk hr
      refine z_aload_n 0 dX5_skipBlanks_0 rfl rfl ?_
      refine y_getI fX5_19 dX5_skipBlanks_1 rfl rfl ?_
      refine z_itop (y := (Int32.ofNat k)) (mset_eq _ _ _ _) ?_
      refine z_aload_n 0 dX5_skipBlanks_4 rfl rfl ?_
      refine y_getI fX5_15 dX5_skipBlanks_5 rfl rfl ?_
      refine z_itop (y := (Int32.ofNat L)) (by simpa [spl, mset] using hL) ?_
      refine z_icmp_ge 37 dX5_skipBlanks_8 (by decide) (fun c_2 => ?_) (fun c_2 => ?_)
      · exact (ds rfl (b := Int32.ofNat L) (N := L) rfl (by omega) (by omega) c_2).elim
      · refine z_aload_n 0 dX5_skipBlanks_11 rfl rfl ?_
        refine z_aload_n 0 dX5_skipBlanks_12 rfl rfl ?_
        refine y_getI fX5_19 dX5_skipBlanks_13 rfl rfl ?_
        refine z_itop (y := (Int32.ofNat k)) (mset_eq _ _ _ _) ?_
        refine y_Vi [_] _ kX5_28 c_byteAt rfl rfl dX5_skipBlanks_16 rfl rfl (Nat.le_of_ble_eq_true rfl) (Nat.le_of_ble_eq_true rfl) ⟨Nat.zero_le _, Nat.zero_le _⟩ ?_
        refine z_itop (y := (t (Int32.ofNat k))) (by rw [← ht]; exact tby_pl _ _ _) ?_
        refine z_bipush 32 dX5_skipBlanks_19 (by decide) ?_
        refine z_icmp_ne 37 dX5_skipBlanks_21 (by decide) (fun c_3 => ?_) (fun c_3 => ?_)
        · exact y_vret dX5_skipBlanks_37 rfl (by rw [hr]; simp [sskip, c_2, c_3])
        · refine z_aload_n 0 dX5_skipBlanks_24 rfl rfl ?_
          refine z_dup dX5_skipBlanks_25 rfl ?_
          refine y_getI fX5_19 dX5_skipBlanks_26 rfl rfl ?_
          refine z_iconst 1 dX5_skipBlanks_29 (by decide) ?_
          refine z_iadd dX5_skipBlanks_30 ?_
          refine y_putI fX5_19 dX5_skipBlanks_31 rfl rfl ?_
          refine z_goto 0 dX5_skipBlanks_34 (by decide) ?_
          refine y_mem (m1 := spl m (k + 1)) (by unfold spl; rw [mset_mset, mset_eq, nat_succ]) ?_
          refine z_sub [0] rfl ?_
          exact ih0 (k + 1) (by omega) (hr.trans (by simp [sskip, c_2, c_3]))
  refine z_sub [0] rfl ?_
  exact loop0 (L - P) P (by omega) rfl
set_option maxRecDepth 100000 in
set_option maxHeartbeats 4000000 in
theorem c_goesOn {m : zmem} {L P : Nat} {t : Int32 → Int32} (ht : tby m = t) (hL : m 1 1 = Int32.ofNat L) (hL4 : L ≤ 400) (hp2 : m 1 2 = Int32.ofNat P) (hPL : P ≤ L) : Ei MX5_goesOn 2 [.ref 1] m (sgo m t L P) (spl m (sblk t L P)) := by
  refine Ei.of (by decide) (Nat.le_of_ble_eq_true rfl) ?_
  show Z _ 0 [(0, .ref 1)] _ _ _ _
  refine z_aload_n 0 dX5_goesOn_0 rfl rfl ?_
  refine y_V0 [] _ kX5_32 (c_skip ht hL hL4 hp2 hPL) rfl rfl dX5_goesOn_1 rfl rfl (Nat.le_of_ble_eq_true rfl) (Nat.le_of_ble_eq_true rfl) ⟨Nat.zero_le _, Nat.zero_le _⟩ ?_
  refine z_aload_n 0 dX5_goesOn_4 rfl rfl ?_
  refine y_getI fX5_22 dX5_goesOn_5 rfl rfl ?_
  refine z_itop (y := (m 1 3)) (by simp [spl, mset]) ?_
  refine z_if_ne 26 dX5_goesOn_8 (by decide) (fun c_1 => ?_) (fun c_1 => ?_)
  · refine z_iconst 0 dX5_goesOn_26 (by decide) ?_
    exact y_zret dX5_goesOn_27 rfl (by simp) (by simp [sgo, c_1]) rfl
  · refine z_aload_n 0 dX5_goesOn_11 rfl rfl ?_
    refine y_getI fX5_19 dX5_goesOn_12 rfl rfl ?_
    refine z_itop (y := (Int32.ofNat (sblk t L P))) (mset_eq _ _ _ _) ?_
    refine z_aload_n 0 dX5_goesOn_15 rfl rfl ?_
    refine y_getI fX5_15 dX5_goesOn_16 rfl rfl ?_
    refine z_itop (y := (Int32.ofNat L)) (by simpa [spl, mset] using hL) ?_
    refine z_icmp_ge 26 dX5_goesOn_19 (by decide) (fun c_2 => ?_) (fun c_2 => ?_)
    · refine z_iconst 0 dX5_goesOn_26 (by decide) ?_
      exact y_zret dX5_goesOn_27 rfl (by simp) (by simp [sgo, c_1, c_2]) rfl
    · refine z_iconst 1 dX5_goesOn_22 (by decide) ?_
      refine z_goto 27 dX5_goesOn_23 (by decide) ?_
      exact y_zret dX5_goesOn_27 rfl (by simp) (by simp [sgo, c_1, c_2]) rfl
set_option maxRecDepth 100000 in
set_option maxHeartbeats 4000000 in
theorem c_stop {m : zmem} {L P : Nat} {t : Int32 → Int32} (ht : tby m = t) (hL : m 1 1 = Int32.ofNat L) (hL4 : L ≤ 400) (hp2 : m 1 2 = Int32.ofNat P) (hPL : P ≤ L) : E0 MX5_takeStop 2 [.ref 1] m (sstop m t L P) := by
  refine E0.of (by decide) (Nat.le_of_ble_eq_true rfl) ?_
  show Z _ 0 [(0, .ref 1)] _ _ _ _
  refine z_aload_n 0 dX5_takeStop_0 rfl rfl ?_
  refine y_V0 [] _ kX5_32 (c_skip ht hL hL4 hp2 hPL) rfl rfl dX5_takeStop_1 rfl rfl (Nat.le_of_ble_eq_true rfl) (Nat.le_of_ble_eq_true rfl) ⟨Nat.zero_le _, Nat.zero_le _⟩ ?_
  refine z_aload_n 0 dX5_takeStop_4 rfl rfl ?_
  refine z_aload_n 0 dX5_takeStop_5 rfl rfl ?_
  refine y_getI fX5_19 dX5_takeStop_6 rfl rfl ?_
  refine z_itop (y := (Int32.ofNat (sblk t L P))) (mset_eq _ _ _ _) ?_
  refine y_Vi [_] _ kX5_28 c_byteAt rfl rfl dX5_takeStop_9 rfl rfl (Nat.le_of_ble_eq_true rfl) (Nat.le_of_ble_eq_true rfl) ⟨Nat.zero_le _, Nat.zero_le _⟩ ?_
  refine z_itop (y := (t (Int32.ofNat (sblk t L P)))) (by rw [← ht]; exact tby_pl _ _ _) ?_
  refine z_bipush 59 dX5_takeStop_12 (by decide) ?_
  refine z_icmp_ne 30 dX5_takeStop_14 (by decide) (fun c_1 => ?_) (fun c_1 => ?_)
  · refine z_aload_n 0 dX5_takeStop_30 rfl rfl ?_
    refine z_iconst 1 dX5_takeStop_31 (by decide) ?_
    refine z_aload_n 0 dX5_takeStop_32 rfl rfl ?_
    refine y_getI fX5_19 dX5_takeStop_33 rfl rfl ?_
    refine z_itop (y := (Int32.ofNat (sblk t L P))) (mset_eq _ _ _ _) ?_
    refine y_V0 [_, _] _ kX5_44 c_blame rfl rfl dX5_takeStop_36 rfl rfl (Nat.le_of_ble_eq_true rfl) (Nat.le_of_ble_eq_true rfl) ⟨Nat.zero_le _, Nat.zero_le _⟩ ?_
    exact y_vret dX5_takeStop_39 rfl (by simp [sstop, spl, mset_mset, ← nat_succ, c_1])
  · refine z_aload_n 0 dX5_takeStop_17 rfl rfl ?_
    refine z_dup dX5_takeStop_18 rfl ?_
    refine y_getI fX5_19 dX5_takeStop_19 rfl rfl ?_
    refine z_itop (y := (Int32.ofNat (sblk t L P))) (mset_eq _ _ _ _) ?_
    refine z_iconst 1 dX5_takeStop_22 (by decide) ?_
    refine z_iadd dX5_takeStop_23 ?_
    refine y_putI fX5_19 dX5_takeStop_24 rfl rfl ?_
    refine z_goto 39 dX5_takeStop_27 (by decide) ?_
    exact y_vret dX5_takeStop_39 rfl (by simp [sstop, spl, mset_mset, ← nat_succ, c_1])
set_option maxRecDepth 100000 in
set_option maxHeartbeats 4000000 in
theorem c_word {m : zmem} {L P i : Nat} (hi : i < 7) {t : Int32 → Int32} (ht : tby m = t) (hL : m 1 1 = Int32.ofNat L) (hL4 : L ≤ 400) (hp2 : m 1 2 = Int32.ofNat P) (hPL : P ≤ L) : Ei MX5_takeWord 4 [.ref 1, .ref (zE0 + i)] m (swordi t L P i) (swordm m t L P i) := by
  refine Ei.of (by decide) (Nat.le_of_ble_eq_true rfl) ?_
  show Z _ 0 [(0, .ref 1), (1, .ref (zE0 + i))] _ _ _ _
  refine z_aload_n 0 dX5_takeWord_0 rfl rfl ?_
  refine y_getI fX5_19 dX5_takeWord_1 rfl rfl ?_
  refine z_itop (y := (Int32.ofNat P)) hp2 ?_
  refine z_istore_n (lv' := [(2, .int (Int32.ofNat P)), (0, .ref 1), (1, .ref (zE0 + i))]) dX5_takeWord_4 rfl (Nat.le_of_ble_eq_true rfl) rfl ?_
  have join39 : ∀ (E : Nat), E = swend t L P → Z (zMB (Qi (swordi t L P i) (swordm m t L P i)) 4 MX5_takeWord) 39 [(0, .ref 1), (1, .ref (zE0 + i)), (2, .int (Int32.ofNat E))] [] (hp m) 0 0 := by
    intro E hE
    refine z_iload_n 2 dX5_takeWord_39 rfl rfl ?_
    refine z_aload_n 0 dX5_takeWord_40 rfl rfl ?_
    refine y_getI fX5_19 dX5_takeWord_41 rfl rfl ?_
    refine z_itop (y := (Int32.ofNat P)) hp2 ?_
    refine z_isub dX5_takeWord_44 ?_
    refine z_aload_n 1 dX5_takeWord_45 rfl rfl ?_
    refine y_VSi [] _ hi kX5_35 rfl (c_slen hi) dX5_takeWord_46 rfl rfl (Nat.le_of_ble_eq_true rfl) (Nat.le_of_ble_eq_true rfl) ⟨Nat.zero_le _, Nat.zero_le _⟩ ?_
    refine z_itop (y := (Int32.ofNat (zln i))) (shr0 _) ?_
    refine z_icmp_eq 54 dX5_takeWord_49 (by decide) (fun c_1 => ?_) (fun c_1 => ?_)
    · refine z_iconst 0 dX5_takeWord_54 (by decide) ?_
      refine z_istore_n (lv' := [(3, .int 0), (0, .ref 1), (1, .ref (zE0 + i)), (2, .int (Int32.ofNat E))]) dX5_takeWord_55 rfl (Nat.le_of_ble_eq_true rfl) rfl ?_
      have loop56 : ∀ (n : Nat) (k : Nat), k + n = (zln i) → sall (swc t P i) (zln i) 0 = sall (swc t P i) n k → Z (zMB (Qi (swordi t L P i) (swordm m t L P i)) 4 MX5_takeWord) 56 [(0, .ref 1), (1, .ref (zE0 + i)), (2, .int (Int32.ofNat E)), (3, .int (Int32.ofNat k))] [] (hp m) 0 0 := by
        intro n
        induction n with
        | zero =>
          intro k hk hr
          have hz := zlen_le hi
          refine z_iload_n 3 dX5_takeWord_56 rfl rfl ?_
          refine z_aload_n 1 dX5_takeWord_57 rfl rfl ?_
          refine y_VSi [] _ hi kX5_35 rfl (c_slen hi) dX5_takeWord_58 rfl rfl (Nat.le_of_ble_eq_true rfl) (Nat.le_of_ble_eq_true rfl) ⟨Nat.zero_le _, Nat.zero_le _⟩ ?_
          refine z_itop (y := (Int32.ofNat (zln i))) (shr0 _) ?_
          refine z_icmp_ge 90 dX5_takeWord_61 (by decide) (fun c_2 => ?_) (fun c_2 => ?_)
          · refine z_aload_n 0 dX5_takeWord_90 rfl rfl ?_
            refine z_iload_n 2 dX5_takeWord_91 rfl rfl ?_
            refine y_putI fX5_19 dX5_takeWord_92 rfl rfl ?_
            refine z_iconst 1 dX5_takeWord_95 (by decide) ?_
            exact y_zret dX5_takeWord_96 rfl (by simp) (by first | (have h9 := hr; simp [sall, swc, c_1, c_2] at h9; simp [swordi, sword, h9, ← hE, c_1, c_2]) | simp [swordi, sword, ← hE, c_1, c_2]) (by first | (have h9 := hr; simp [sall, swc, c_1, c_2] at h9; simp [swordm, sword, spl, h9, ← hE, c_1, c_2]) | simp [swordm, sword, spl, ← hE, c_1, c_2])
          · exact (dz rfl (b := Int32.ofNat (zln i)) rfl (by omega) (by omega) c_2).elim
        | succ n ih56 =>
          intro k hk hr
          have hz := zlen_le hi
          refine z_iload_n 3 dX5_takeWord_56 rfl rfl ?_
          refine z_aload_n 1 dX5_takeWord_57 rfl rfl ?_
          refine y_VSi [] _ hi kX5_35 rfl (c_slen hi) dX5_takeWord_58 rfl rfl (Nat.le_of_ble_eq_true rfl) (Nat.le_of_ble_eq_true rfl) ⟨Nat.zero_le _, Nat.zero_le _⟩ ?_
          refine z_itop (y := (Int32.ofNat (zln i))) (shr0 _) ?_
          refine z_icmp_ge 90 dX5_takeWord_61 (by decide) (fun c_3 => ?_) (fun c_3 => ?_)
          · exact (ds rfl (b := Int32.ofNat (zln i)) rfl (by omega) (by omega) c_3).elim
          · refine z_aload_n 0 dX5_takeWord_64 rfl rfl ?_
            refine z_aload_n 0 dX5_takeWord_65 rfl rfl ?_
            refine y_getI fX5_19 dX5_takeWord_66 rfl rfl ?_
            refine z_itop (y := (Int32.ofNat P)) hp2 ?_
            refine z_iload_n 3 dX5_takeWord_69 rfl rfl ?_
            refine z_iadd dX5_takeWord_70 ?_
            refine y_Vi [_] _ kX5_28 c_byteAt rfl rfl dX5_takeWord_71 rfl rfl (Nat.le_of_ble_eq_true rfl) (Nat.le_of_ble_eq_true rfl) ⟨Nat.zero_le _, Nat.zero_le _⟩ ?_
            refine z_itop (y := (t (Int32.ofNat P + Int32.ofNat k))) (by rw [← ht]) ?_
            refine z_aload_n 1 dX5_takeWord_74 rfl rfl ?_
            refine z_iload_n 3 dX5_takeWord_75 rfl rfl ?_
            refine y_VSi [_] _ hi kX5_40 rfl (c_sat hi (chk_of (k := k) (by omega) (zlen_le hi)).1 (chk_of (k := k) (by omega) (zlen_le hi)).2.1 (chk_of (k := k) (by omega) (zlen_le hi)).2.2) dX5_takeWord_76 rfl rfl (Nat.le_of_ble_eq_true rfl) (Nat.le_of_ble_eq_true rfl) ⟨Nat.zero_le _, Nat.zero_le _⟩ ?_
            refine z_icmp_eq 84 dX5_takeWord_79 (by decide) (fun c_4 => ?_) (fun c_4 => ?_)
            · obtain ⟨v_5, e_5⟩ : ∃ y : Int32, y = (Int32.ofNat k) + 1 := ⟨_, rfl⟩
              refine z_iinc (lv' := [(3, .int v_5), (0, .ref 1), (1, .ref (zE0 + i)), (2, .int (Int32.ofNat E))]) 3 v_5 dX5_takeWord_84 rfl (by rw [e_5]; rfl) (Nat.le_of_ble_eq_true rfl) rfl ?_
              refine z_goto 56 dX5_takeWord_87 (by decide) ?_
              obtain rfl : v_5 = Int32.ofNat (k + 1) := e_5.trans (nat_succ k)
              refine z_sub [1,2,3,0] rfl ?_
              exact ih56 (k + 1)  (by omega) (hr.trans (by simp [sall, swc, c_3, c_4]))
            · refine z_iconst 0 dX5_takeWord_82 (by decide) ?_
              exact y_zret dX5_takeWord_83 rfl (by simp) (by first | (have h9 := hr; simp [sall, swc, c_1, c_3, c_4] at h9; simp [swordi, sword, h9, ← hE, c_1, c_3, c_4]) | simp [swordi, sword, ← hE, c_1, c_3, c_4]) (by first | (have h9 := hr; simp [sall, swc, c_1, c_3, c_4] at h9; simp [swordm, sword, spl, h9, ← hE, c_1, c_3, c_4]) | simp [swordm, sword, spl, ← hE, c_1, c_3, c_4])
      refine z_sub [1,2,3,0] rfl ?_
      exact loop56 ((zln i)) 0  (by omega) rfl
    · refine z_iconst 0 dX5_takeWord_52 (by decide) ?_
      exact y_zret dX5_takeWord_53 rfl (by simp) (by first | (have h9 := hr; simp [sall, swc, c_1] at h9; simp [swordi, sword, h9, ← hE, c_1]) | simp [swordi, sword, ← hE, c_1]) (by first | (have h9 := hr; simp [sall, swc, c_1] at h9; simp [swordm, sword, spl, h9, ← hE, c_1]) | simp [swordm, sword, spl, ← hE, c_1])
  have loop5 : ∀ (n : Nat) (k : Nat), k + n = L → swend t L P = sskip (fun k => decide (¬ t (Int32.ofNat k) < 97 ∧ ¬ 122 < t (Int32.ofNat k))) n k → Z (zMB (Qi (swordi t L P i) (swordm m t L P i)) 4 MX5_takeWord) 5 [(0, .ref 1), (1, .ref (zE0 + i)), (2, .int (Int32.ofNat k))] [] (hp m) 0 0 := by
    intro n
    induction n with
    | zero =>
      intro k hk hr
      have hz := zlen_le hi
      refine z_iload_n 2 dX5_takeWord_5 rfl rfl ?_
      refine z_aload_n 0 dX5_takeWord_6 rfl rfl ?_
      refine y_getI fX5_15 dX5_takeWord_7 rfl rfl ?_
      refine z_itop (y := (Int32.ofNat L)) hL ?_
      refine z_icmp_ge 39 dX5_takeWord_10 (by decide) (fun c_6 => ?_) (fun c_6 => ?_)
      · refine z_sub [0,1,2] rfl ?_
        exact join39 _ (by rw [hr]; simp [sskip, c_6])
      · exact (dz rfl (b := Int32.ofNat L) rfl (by omega) (by omega) c_6).elim
    | succ n ih5 =>
      intro k hk hr
      have hz := zlen_le hi
      refine z_iload_n 2 dX5_takeWord_5 rfl rfl ?_
      refine z_aload_n 0 dX5_takeWord_6 rfl rfl ?_
      refine y_getI fX5_15 dX5_takeWord_7 rfl rfl ?_
      refine z_itop (y := (Int32.ofNat L)) hL ?_
      refine z_icmp_ge 39 dX5_takeWord_10 (by decide) (fun c_7 => ?_) (fun c_7 => ?_)
      · exact (ds rfl (b := Int32.ofNat L) rfl (by omega) (by omega) c_7).elim
      · refine z_aload_n 0 dX5_takeWord_13 rfl rfl ?_
        refine z_iload_n 2 dX5_takeWord_14 rfl rfl ?_
        refine y_Vi [_] _ kX5_28 c_byteAt rfl rfl dX5_takeWord_15 rfl rfl (Nat.le_of_ble_eq_true rfl) (Nat.le_of_ble_eq_true rfl) ⟨Nat.zero_le _, Nat.zero_le _⟩ ?_
        refine z_itop (y := (t (Int32.ofNat k))) (by rw [← ht]) ?_
        refine z_bipush 97 dX5_takeWord_18 (by decide) ?_
        refine z_icmp_lt 39 dX5_takeWord_20 (by decide) (fun c_8 => ?_) (fun c_8 => ?_)
        · refine z_sub [0,1,2] rfl ?_
          exact join39 _ (by rw [hr]; simp [sskip, c_7, c_8])
        · refine z_aload_n 0 dX5_takeWord_23 rfl rfl ?_
          refine z_iload_n 2 dX5_takeWord_24 rfl rfl ?_
          refine y_Vi [_] _ kX5_28 c_byteAt rfl rfl dX5_takeWord_25 rfl rfl (Nat.le_of_ble_eq_true rfl) (Nat.le_of_ble_eq_true rfl) ⟨Nat.zero_le _, Nat.zero_le _⟩ ?_
          refine z_itop (y := (t (Int32.ofNat k))) (by rw [← ht]) ?_
          refine z_bipush 122 dX5_takeWord_28 (by decide) ?_
          refine z_icmp_gt 39 dX5_takeWord_30 (by decide) (fun c_9 => ?_) (fun c_9 => ?_)
          · refine z_sub [0,1,2] rfl ?_
            exact join39 _ (by rw [hr]; simp [sskip, c_7, c_8, c_9])
          · obtain ⟨v_10, e_10⟩ : ∃ y : Int32, y = (Int32.ofNat k) + 1 := ⟨_, rfl⟩
            refine z_iinc (lv' := [(2, .int v_10), (0, .ref 1), (1, .ref (zE0 + i))]) 2 v_10 dX5_takeWord_33 rfl (by rw [e_10]; rfl) (Nat.le_of_ble_eq_true rfl) rfl ?_
            refine z_goto 5 dX5_takeWord_36 (by decide) ?_
            obtain rfl : v_10 = Int32.ofNat (k + 1) := e_10.trans (nat_succ k)
            refine z_sub [1,2,0] rfl ?_
            exact ih5 (k + 1)  (by omega) (hr.trans (by simp [sskip, c_7, c_8, c_9]))
  refine z_sub [1,2,0] rfl ?_
  exact loop5 (L - P) P (by omega) rfl
set_option maxRecDepth 100000 in
set_option maxHeartbeats 4000000 in
theorem c_num {m : zmem} {L P : Nat} {lo hi : Int32} {t : Int32 → Int32} (ht : tby m = t) (hL : m 1 1 = Int32.ofNat L) (hL4 : L ≤ 400) (hp2 : m 1 2 = Int32.ofNat P) (hPL : P ≤ L) : Ei MX5_takeNumber 2 [.ref 1, .int lo, .int hi] m ((snumr t L P).2) (snumm m t L P lo hi) := by
  refine Ei.of (by decide) (Nat.le_of_ble_eq_true rfl) ?_
  show Z _ 0 [(0, .ref 1), (1, .int lo), (2, .int hi)] _ _ _ _
  refine z_aload_n 0 dX5_takeNumber_0 rfl rfl ?_
  refine y_V0 [] _ kX5_32 (c_skip ht hL hL4 hp2 hPL) rfl rfl dX5_takeNumber_1 rfl rfl (Nat.le_of_ble_eq_true rfl) (Nat.le_of_ble_eq_true rfl) ⟨Nat.zero_le _, Nat.zero_le _⟩ ?_
  refine z_aload_n 0 dX5_takeNumber_4 rfl rfl ?_
  refine y_getI fX5_19 dX5_takeNumber_5 rfl rfl ?_
  refine z_itop (y := (Int32.ofNat (sblk t L P))) (mset_eq _ _ _ _) ?_
  refine z_istore_n (lv' := [(3, .int (Int32.ofNat (sblk t L P))), (0, .ref 1), (1, .int lo), (2, .int hi)]) dX5_takeNumber_8 rfl (Nat.le_of_ble_eq_true rfl) rfl ?_
  refine z_iconst 0 dX5_takeNumber_9 (by decide) ?_
  refine z_istore (lv' := [(4, .int 0), (3, .int (Int32.ofNat (sblk t L P))), (0, .ref 1), (1, .int lo), (2, .int hi)]) dX5_takeNumber_10 (Nat.le_of_ble_eq_true rfl) rfl ?_
  have join91 : ∀ (E : Nat) (v : Int32), snumr t L P = (E, v) → Z (zMB (Qi ((snumr t L P).2) (snumm m t L P lo hi)) 2 MX5_takeNumber) 91 [(0, .ref 1), (1, .int lo), (2, .int hi), (3, .int (Int32.ofNat (sblk t L P))), (4, .int v)] [] (hp (spl m E)) 0 0 := by
    intro E v hE
    refine z_aload_n 0 dX5_takeNumber_91 rfl rfl ?_
    refine y_getI fX5_19 dX5_takeNumber_92 rfl rfl ?_
    refine z_itop (y := (Int32.ofNat E)) (mset_eq _ _ _ _) ?_
    refine z_iload_n 3 dX5_takeNumber_95 rfl rfl ?_
    refine z_icmp_ne 108 dX5_takeNumber_96 (by decide) (fun c_1 => ?_) (fun c_1 => ?_)
    · refine z_aload_n 0 dX5_takeNumber_108 rfl rfl ?_
      refine y_getI fX5_19 dX5_takeNumber_109 rfl rfl ?_
      refine z_itop (y := (Int32.ofNat E)) (mset_eq _ _ _ _) ?_
      refine z_iload_n 3 dX5_takeNumber_112 rfl rfl ?_
      refine z_isub dX5_takeNumber_113 ?_
      refine z_iconst 3 dX5_takeNumber_114 (by decide) ?_
      refine z_icmp_gt 130 dX5_takeNumber_115 (by decide) (fun c_2 => ?_) (fun c_2 => ?_)
      · refine z_aload_n 0 dX5_takeNumber_130 rfl rfl ?_
        refine z_iconst 2 dX5_takeNumber_131 (by decide) ?_
        refine z_iload_n 3 dX5_takeNumber_132 rfl rfl ?_
        refine y_V0 [_, _] _ kX5_44 c_blame rfl rfl dX5_takeNumber_133 rfl rfl (Nat.le_of_ble_eq_true rfl) (Nat.le_of_ble_eq_true rfl) ⟨Nat.zero_le _, Nat.zero_le _⟩ ?_
        refine z_iload 4 dX5_takeNumber_136 rfl ?_
        exact y_iret dX5_takeNumber_138 rfl (by rw [hE]) (by simp [snumm, snumb, hE, c_1, c_2])
      · refine z_iload 4 dX5_takeNumber_118 rfl ?_
        refine z_iload_n 1 dX5_takeNumber_120 rfl rfl ?_
        refine z_icmp_lt 130 dX5_takeNumber_121 (by decide) (fun c_3 => ?_) (fun c_3 => ?_)
        · refine z_aload_n 0 dX5_takeNumber_130 rfl rfl ?_
          refine z_iconst 2 dX5_takeNumber_131 (by decide) ?_
          refine z_iload_n 3 dX5_takeNumber_132 rfl rfl ?_
          refine y_V0 [_, _] _ kX5_44 c_blame rfl rfl dX5_takeNumber_133 rfl rfl (Nat.le_of_ble_eq_true rfl) (Nat.le_of_ble_eq_true rfl) ⟨Nat.zero_le _, Nat.zero_le _⟩ ?_
          refine z_iload 4 dX5_takeNumber_136 rfl ?_
          exact y_iret dX5_takeNumber_138 rfl (by rw [hE]) (by simp [snumm, snumb, hE, c_1, c_2, c_3])
        · refine z_iload 4 dX5_takeNumber_124 rfl ?_
          refine z_iload_n 2 dX5_takeNumber_126 rfl rfl ?_
          refine z_icmp_le 136 dX5_takeNumber_127 (by decide) (fun c_4 => ?_) (fun c_4 => ?_)
          · refine z_iload 4 dX5_takeNumber_136 rfl ?_
            exact y_iret dX5_takeNumber_138 rfl (by rw [hE]) (by simp [snumm, snumb, hE, c_1, c_2, c_3, c_4])
          · refine z_aload_n 0 dX5_takeNumber_130 rfl rfl ?_
            refine z_iconst 2 dX5_takeNumber_131 (by decide) ?_
            refine z_iload_n 3 dX5_takeNumber_132 rfl rfl ?_
            refine y_V0 [_, _] _ kX5_44 c_blame rfl rfl dX5_takeNumber_133 rfl rfl (Nat.le_of_ble_eq_true rfl) (Nat.le_of_ble_eq_true rfl) ⟨Nat.zero_le _, Nat.zero_le _⟩ ?_
            refine z_iload 4 dX5_takeNumber_136 rfl ?_
            exact y_iret dX5_takeNumber_138 rfl (by rw [hE]) (by simp [snumm, snumb, hE, c_1, c_2, c_3, c_4])
    · refine z_aload_n 0 dX5_takeNumber_99 rfl rfl ?_
      refine z_iconst 1 dX5_takeNumber_100 (by decide) ?_
      refine z_iload_n 3 dX5_takeNumber_101 rfl rfl ?_
      refine y_V0 [_, _] _ kX5_44 c_blame rfl rfl dX5_takeNumber_102 rfl rfl (Nat.le_of_ble_eq_true rfl) (Nat.le_of_ble_eq_true rfl) ⟨Nat.zero_le _, Nat.zero_le _⟩ ?_
      refine z_goto 136 dX5_takeNumber_105 (by decide) ?_
      refine z_iload 4 dX5_takeNumber_136 rfl ?_
      exact y_iret dX5_takeNumber_138 rfl (by rw [hE]) (by simp [snumm, snumb, hE, c_1])
  have loop12 : ∀ (n : Nat) (k : Nat) (v : Int32), k + n = L → snumr t L P = snum t (sblk t L P) n k v → Z (zMB (Qi ((snumr t L P).2) (snumm m t L P lo hi)) 2 MX5_takeNumber) 12 [(0, .ref 1), (1, .int lo), (2, .int hi), (3, .int (Int32.ofNat (sblk t L P))), (4, .int v)] [] (hp (spl m k)) 0 0 := by
    intro n
    induction n with
    | zero =>
      intro k v hk hr
      refine z_aload_n 0 dX5_takeNumber_12 rfl rfl ?_
      refine y_getI fX5_19 dX5_takeNumber_13 rfl rfl ?_
      refine z_itop (y := (Int32.ofNat k)) (mset_eq _ _ _ _) ?_
      refine z_aload_n 0 dX5_takeNumber_16 rfl rfl ?_
      refine y_getI fX5_15 dX5_takeNumber_17 rfl rfl ?_
      refine z_itop (y := (Int32.ofNat L)) (by simpa [spl, mset] using hL) ?_
      refine z_icmp_ge 91 dX5_takeNumber_20 (by decide) (fun c_5 => ?_) (fun c_5 => ?_)
      · refine z_sub [0,1,2,3,4] rfl ?_
        exact join91 _ _ (by rw [hr]; simp [snum, c_5])
      · exact (dz rfl (b := Int32.ofNat L) (N := L) rfl (by omega) (by omega) c_5).elim
    | succ n ih12 =>
      intro k v hk hr
      refine z_aload_n 0 dX5_takeNumber_12 rfl rfl ?_
      refine y_getI fX5_19 dX5_takeNumber_13 rfl rfl ?_
      refine z_itop (y := (Int32.ofNat k)) (mset_eq _ _ _ _) ?_
      refine z_aload_n 0 dX5_takeNumber_16 rfl rfl ?_
      refine y_getI fX5_15 dX5_takeNumber_17 rfl rfl ?_
      refine z_itop (y := (Int32.ofNat L)) (by simpa [spl, mset] using hL) ?_
      refine z_icmp_ge 91 dX5_takeNumber_20 (by decide) (fun c_6 => ?_) (fun c_6 => ?_)
      · exact (ds rfl (b := Int32.ofNat L) (N := L) rfl (by omega) (by omega) c_6).elim
      · refine z_aload_n 0 dX5_takeNumber_23 rfl rfl ?_
        refine z_aload_n 0 dX5_takeNumber_24 rfl rfl ?_
        refine y_getI fX5_19 dX5_takeNumber_25 rfl rfl ?_
        refine z_itop (y := (Int32.ofNat k)) (mset_eq _ _ _ _) ?_
        refine y_Vi [_] _ kX5_28 c_byteAt rfl rfl dX5_takeNumber_28 rfl rfl (Nat.le_of_ble_eq_true rfl) (Nat.le_of_ble_eq_true rfl) ⟨Nat.zero_le _, Nat.zero_le _⟩ ?_
        refine z_itop (y := (t (Int32.ofNat k))) (by rw [← ht]; exact tby_pl _ _ _) ?_
        refine z_bipush 48 dX5_takeNumber_31 (by decide) ?_
        refine z_icmp_lt 91 dX5_takeNumber_33 (by decide) (fun c_7 => ?_) (fun c_7 => ?_)
        · refine z_sub [0,1,2,3,4] rfl ?_
          exact join91 _ _ (by rw [hr]; simp [snum, c_6, c_7])
        · refine z_aload_n 0 dX5_takeNumber_36 rfl rfl ?_
          refine z_aload_n 0 dX5_takeNumber_37 rfl rfl ?_
          refine y_getI fX5_19 dX5_takeNumber_38 rfl rfl ?_
          refine z_itop (y := (Int32.ofNat k)) (mset_eq _ _ _ _) ?_
          refine y_Vi [_] _ kX5_28 c_byteAt rfl rfl dX5_takeNumber_41 rfl rfl (Nat.le_of_ble_eq_true rfl) (Nat.le_of_ble_eq_true rfl) ⟨Nat.zero_le _, Nat.zero_le _⟩ ?_
          refine z_itop (y := (t (Int32.ofNat k))) (by rw [← ht]; exact tby_pl _ _ _) ?_
          refine z_bipush 57 dX5_takeNumber_44 (by decide) ?_
          refine z_icmp_gt 91 dX5_takeNumber_46 (by decide) (fun c_8 => ?_) (fun c_8 => ?_)
          · refine z_sub [0,1,2,3,4] rfl ?_
            exact join91 _ _ (by rw [hr]; simp [snum, c_6, c_7, c_8])
          · refine z_aload_n 0 dX5_takeNumber_49 rfl rfl ?_
            refine y_getI fX5_19 dX5_takeNumber_50 rfl rfl ?_
            refine z_itop (y := (Int32.ofNat k)) (mset_eq _ _ _ _) ?_
            refine z_iload_n 3 dX5_takeNumber_53 rfl rfl ?_
            refine z_isub dX5_takeNumber_54 ?_
            refine z_iconst 3 dX5_takeNumber_55 (by decide) ?_
            refine z_icmp_ge 78 dX5_takeNumber_56 (by decide) (fun c_9 => ?_) (fun c_9 => ?_)
            · refine z_aload_n 0 dX5_takeNumber_78 rfl rfl ?_
              refine z_dup dX5_takeNumber_79 rfl ?_
              refine y_getI fX5_19 dX5_takeNumber_80 rfl rfl ?_
              refine z_itop (y := (Int32.ofNat k)) (mset_eq _ _ _ _) ?_
              refine z_iconst 1 dX5_takeNumber_83 (by decide) ?_
              refine z_iadd dX5_takeNumber_84 ?_
              refine y_putI fX5_19 dX5_takeNumber_85 rfl rfl ?_
              refine z_goto 12 dX5_takeNumber_88 (by decide) ?_
              refine y_mem (m1 := spl m (k + 1)) (by unfold spl; rw [mset_mset, nat_succ]) ?_
              refine z_sub [0,1,2,3,4] rfl ?_
              exact ih12 (k + 1) _ (by omega) (hr.trans (by simp [snum, c_6, c_7, c_8, c_9]))
            · refine z_iload 4 dX5_takeNumber_59 rfl ?_
              refine z_bipush 10 dX5_takeNumber_61 (by decide) ?_
              refine z_imul dX5_takeNumber_63 ?_
              refine z_aload_n 0 dX5_takeNumber_64 rfl rfl ?_
              refine z_aload_n 0 dX5_takeNumber_65 rfl rfl ?_
              refine y_getI fX5_19 dX5_takeNumber_66 rfl rfl ?_
              refine z_itop (y := (Int32.ofNat k)) (mset_eq _ _ _ _) ?_
              refine y_Vi [_] _ kX5_28 c_byteAt rfl rfl dX5_takeNumber_69 rfl rfl (Nat.le_of_ble_eq_true rfl) (Nat.le_of_ble_eq_true rfl) ⟨Nat.zero_le _, Nat.zero_le _⟩ ?_
              refine z_itop (y := (t (Int32.ofNat k))) (by rw [← ht]; exact tby_pl _ _ _) ?_
              refine z_iadd dX5_takeNumber_72 ?_
              refine z_bipush 48 dX5_takeNumber_73 (by decide) ?_
              refine z_isub dX5_takeNumber_75 ?_
              refine z_topi (fun v_10 e_10 => ?_)
              refine z_istore (lv' := [(4, .int v_10), (0, .ref 1), (1, .int lo), (2, .int hi), (3, .int (Int32.ofNat (sblk t L P)))]) dX5_takeNumber_76 (Nat.le_of_ble_eq_true rfl) rfl ?_
              refine z_aload_n 1 dX5_takeNumber_78 rfl rfl ?_
              refine z_dup dX5_takeNumber_79 rfl ?_
              refine y_getI fX5_19 dX5_takeNumber_80 rfl rfl ?_
              refine z_itop (y := (Int32.ofNat k)) (mset_eq _ _ _ _) ?_
              refine z_iconst 1 dX5_takeNumber_83 (by decide) ?_
              refine z_iadd dX5_takeNumber_84 ?_
              refine y_putI fX5_19 dX5_takeNumber_85 rfl rfl ?_
              refine z_goto 12 dX5_takeNumber_88 (by decide) ?_
              refine y_mem (m1 := spl m (k + 1)) (by unfold spl; rw [mset_mset, nat_succ]) ?_
              refine z_sub [1,2,3,4,0] rfl ?_
              exact ih12 (k + 1) _ (by omega) (hr.trans (by simp [snum, c_6, c_7, c_8, c_9, e_10]))
  refine z_sub [2,3,4,1,0] rfl ?_
  exact loop12 (L - sblk t L P) (sblk t L P) _ (by have := sblk_le (t := t) hPL; omega) rfl
