/-! a parish: order, days, layings, copies -/
theorem dzg {b : Int32} {N k : Nat} (hb : b = Int32.ofNat N) (h : N < k) (hk : k < 2147483648) (c : ¬ b < Int32.ofNat k) : False := by
  subst hb
  apply c
  rw [Int32.lt_iff_toInt_lt, nat_toInt (by omega), nat_toInt hk]
  omega
theorem dsg {b : Int32} {N k : Nat} (hb : b = Int32.ofNat N) (h : k ≤ N) (hN : N < 2147483648) (c : b < Int32.ofNat k) : False := by
  subst hb
  rw [Int32.lt_iff_toInt_lt, nat_toInt hN, nat_toInt (by omega)] at c
  omega
theorem aput_ne {m : zmem} {q n a : Nat} {i v : Int32} (h : a ≠ q) : aput m q n i v a = m a := by
  unfold aput
  split
  · rfl
  · split
    · rfl
    · exact mset_cell v h
def srem (x y : Int32) : Int32 := x - x / y * y
def schance (c : Int32) : Int32 := ((c.toInt64 * 1103515245 + 12345) &&& 2147483647).toInt32
def sdraw (c n : Int32) : Int32 := if n ≤ 0 then 0 else srem (c / 65536) n
def spd1 (p : Nat) (heat : Int32) (k : Nat) (m : zmem) : zmem := if heat ≤ 0 then m else aput m (p + 1) 8 (Int32.ofNat k) (smax 0 (aat 8 (m (p + 1)) (Int32.ofNat k) - sthaw m p (Int32.ofNat k) heat))
def spd2 (p : Nat) (tk heat : Int32) (k : Nat) (m : zmem) : zmem := if 0 ≤ heat then spd1 p heat k m else if ¬ shas tk (Int32.ofNat k) = 0 then spd1 p heat k m else aput (spd1 p heat k m) (p + 1) 8 (Int32.ofNat k) (smin 99 (aat 8 (m (p + 1)) (Int32.ofNat k) - heat))
def spw (p : Nat) (loft : Int32) (k : Nat) (m : zmem) : zmem := if shas loft (Int32.ofNat k) = 0 then m else aput m (p + 3) 7 (Int32.ofNat k) (smin 9999 (aat 7 (m (p + 3)) (Int32.ofNat k) + 1))
def spwAll (p D : Nat) (m : zmem) : zmem := sfold (spw p (swait m p D)) D 0 m
def sday (m : zmem) (p D Y : Nat) (heat : Int32) : zmem := spwAll p D (sfold (spd2 p (staken m p D) heat) Y 0 m)
def spn (p : Nat) (loft r : Int32) (k : Nat) (m : zmem) : zmem := if shas loft (Int32.ofNat k) = 0 then m else if r ≤ sdraw (schance (m p 15)) 10 then mset m p 15 (schance (m p 15)) else aput (mset m p 15 (schance (m p 15))) (p + 6) 7 (Int32.ofNat k) (smax 0 (aat 7 (mset m p 15 (schance (m p 15)) (p + 6)) (Int32.ofNat k) - 1))
def snight (m : zmem) (p D : Nat) (r : Int32) : zmem := sfold (spn p (swait m p D) r) D 0 m
def slay2 (m : zmem) (p : Nat) (d i : Int32) : zmem := aput (aput m (p + 1) 8 i 0) (p + 7) 7 d i
def slayw (m : zmem) (p : Nat) (i : Int32) : Int32 := aat 8 (m (p + 1)) i + 4
def slay (m : zmem) (p : Nat) (d i : Int32) : zmem := mset (slay2 m p d i) p 14 (slay2 m p d i p 14 + slayw m p i)
def sbehind (m : zmem) (p D Y : Nat) (days heat : Int32) : Int32 := sfold (fun k s => if ¬ shas (staken m p D) (Int32.ofNat k) = 0 then s else if days * sthaw m p (Int32.ofNat k) heat < aat 8 (m (p + 1)) (Int32.ofNat k) then s else s + 1) Y 0 0
def suntil (m : zmem) (p D Y : Nat) (n heat : Int32) : Int32 := sfind (fun k => decide (¬ sbehind m p D Y (Int32.ofNat k) heat < n)) 1000 0
def ssun (m : zmem) (p : Nat) : zmem := if ¬ m p 2 = 0 then m else mset (mset m p 2 6) p 3 2
def sset1 (p k : Nat) (m : zmem) : zmem := aput (aput (aput (aput m (p + 5) 7 (Int32.ofNat k) 0) (p + 6) 7 (Int32.ofNat k) 9) (p + 7) 7 (Int32.ofNat k) (-1)) (p + 8) 7 (Int32.ofNat k) (Int32.ofNat k)
def sset (p k : Nat) (m : zmem) : zmem := aput (sset1 p k m) (p + 9) 7 (Int32.ofNat k) (sbit (sset1 p k m p 1) - 1)
def ssettle0 (p : Nat) (m : zmem) : zmem := mset (mset m p 13 0) p 14 0
def ssettle (m : zmem) (p : Nat) : zmem := ssettle0 p (sfold (sset p) 7 0 (ssun m p))
def scp (o p k : Nat) (m : zmem) : zmem := mset m p k (m o k)
def scr (o p k len : Nat) (m : zmem) : zmem := scopy (o + k) len (p + k) len 8 0 m
def scopyP (o p : Nat) (m : zmem) : zmem := scp o p 15 (scp o p 14 (scp o p 13 (scr o p 9 7 (scr o p 8 7 (scr o p 7 7 (scr o p 6 7 (scr o p 5 7 (scr o p 4 7 (scr o p 3 7 (scr o p 2 7 (scr o p 1 8 (scp o p 3 (scp o p 2 (scp o p 1 (scp o p 0 m)))))))))))))))
set_option maxRecDepth 100000 in
set_option maxHeartbeats 4000000 in
theorem c_place {m : zmem} {p r C D : Nat} {set d : Int32} (hP : isPar p) (hR : isCus r) (hC : m r 1 = Int32.ofNat C) (hC4 : C ≤ 4) (hD : m p 1 = Int32.ofNat D) (hD7 : D ≤ 7) : Ei MX3_placeAmong 4 [.ref p, .ref r, .int set, .int d] m (splace m p r C D set d) (m) := by
  refine Ei.of (by decide) (Nat.le_of_ble_eq_true rfl) ?_
  show Z _ 0 [(0, .ref p), (1, .ref r), (2, .int set), (3, .int d)] _ _ _ _
  refine z_aload_n 0 dX3_placeAmong_0 rfl rfl ?_
  refine z_aload_n 1 dX3_placeAmong_1 rfl rfl ?_
  refine z_iload_n 3 dX3_placeAmong_2 rfl rfl ?_
  refine y_Vl [_, _] _ kX3_165 (c_urg hP hR hC hC4) rfl hP.1 dX3_placeAmong_3 rfl rfl (Nat.le_of_ble_eq_true rfl) (Nat.le_of_ble_eq_true rfl) ⟨Nat.zero_le _, Nat.zero_le _⟩ ?_
  refine z_topl (fun v_1 e_1 => ?_)
  refine z_lstore (lv' := [(4, .long v_1), (0, .ref p), (1, .ref r), (2, .int set), (3, .int d)]) dX3_placeAmong_6 (Nat.le_of_ble_eq_true rfl) rfl ?_
  refine z_iconst 0 dX3_placeAmong_8 (by decide) ?_
  refine z_istore (lv' := [(6, .int 0), (4, .long v_1), (0, .ref p), (1, .ref r), (2, .int set), (3, .int d)]) dX3_placeAmong_9 (Nat.le_of_ble_eq_true rfl) rfl ?_
  refine z_iconst 0 dX3_placeAmong_11 (by decide) ?_
  refine z_istore (lv' := [(7, .int 0), (6, .int 0), (4, .long v_1), (0, .ref p), (1, .ref r), (2, .int set), (3, .int d)]) dX3_placeAmong_12 (Nat.le_of_ble_eq_true rfl) rfl ?_
  have loop14 : ∀ (n : Nat) (k : Nat) (own : Int64) (s : Int32), k + n = D → own = surg m p r C d → splace m p r C D set d = sfold (fun k s => if shas set (Int32.ofNat k) = 0 then s else if lg_cmp (surg m p r C (Int32.ofNat k)) (surg m p r C d) ≤ 0 then s else s + 1) n k s → Z (zMB (Qi (splace m p r C D set d) (m)) 4 MX3_placeAmong) 14 [(0, .ref p), (1, .ref r), (2, .int set), (3, .int d), (4, .long own), (6, .int s), (7, .int (Int32.ofNat k))] [] (hp m) 0 0 := by
    intro n
    induction n with
    | zero =>
      intro k own s hk ho hr
      refine z_iload 6 dX3_placeAmong_14 rfl ?_
      refine z_aload_n 0 dX3_placeAmong_16 rfl rfl ?_
      refine y_getI fX3_15 dX3_placeAmong_17 hP.1 rfl ?_
      refine z_icmp_ge 54 dX3_placeAmong_20 (by decide) (fun c_2 => ?_) (fun c_2 => ?_)
      · refine z_iload 5 dX3_placeAmong_54 rfl ?_
        exact y_iret dX3_placeAmong_56 rfl hr.symm rfl
      · exact (dz rfl hD (by omega) (by omega) c_2).elim
    | succ n ih14 =>
      intro k own s hk ho hr
      refine z_iload 6 dX3_placeAmong_14 rfl ?_
      refine z_aload_n 0 dX3_placeAmong_16 rfl rfl ?_
      refine y_getI fX3_15 dX3_placeAmong_17 hP.1 rfl ?_
      refine z_icmp_ge 54 dX3_placeAmong_20 (by decide) (fun c_3 => ?_) (fun c_3 => ?_)
      · exact (ds rfl hD (by omega) (by omega) c_3).elim
      · refine z_iload_n 2 dX3_placeAmong_23 rfl rfl ?_
        refine z_iload 6 dX3_placeAmong_24 rfl ?_
        refine y_Si [_, _] _ kX3_138 c_has dX3_placeAmong_26 rfl rfl (Nat.le_of_ble_eq_true rfl) (Nat.le_of_ble_eq_true rfl) ⟨Nat.zero_le _, Nat.zero_le _⟩ ?_
        refine z_if_eq 48 dX3_placeAmong_29 (by decide) (fun c_4 => ?_) (fun c_4 => ?_)
        · obtain ⟨v_5, e_5⟩ : ∃ y : Int32, y = (Int32.ofNat k) + 1 := ⟨_, rfl⟩
          refine z_iinc (lv' := [(7, .int v_5), (0, .ref p), (1, .ref r), (2, .int set), (3, .int d), (4, .long own), (6, .int s)]) 6 v_5 dX3_placeAmong_48 rfl (by rw [e_5]; rfl) (Nat.le_of_ble_eq_true rfl) rfl ?_
          refine z_goto 14 dX3_placeAmong_51 (by decide) ?_
          obtain rfl : v_5 = Int32.ofNat (k + 1) := e_5.trans (nat_succ k)
          refine z_sub [1,2,3,4,5,6,0] rfl ?_
          exact ih14 (k + 1) _ _ (by omega) ho (hr.trans (congrArg (sfold _ n (k + 1)) (by subst_vars; simp [c_3, c_4])))
        · refine z_aload_n 0 dX3_placeAmong_32 rfl rfl ?_
          refine z_aload_n 1 dX3_placeAmong_33 rfl rfl ?_
          refine z_iload 6 dX3_placeAmong_34 rfl ?_
          refine y_Vl [_, _] _ kX3_165 (c_urg hP hR hC hC4) rfl hP.1 dX3_placeAmong_36 rfl rfl (Nat.le_of_ble_eq_true rfl) (Nat.le_of_ble_eq_true rfl) ⟨Nat.zero_le _, Nat.zero_le _⟩ ?_
          refine z_lload 4 dX3_placeAmong_39 rfl ?_
          refine z_lcmp dX3_placeAmong_41 ?_
          refine z_if_le 48 dX3_placeAmong_42 (by decide) (fun c_6 => ?_) (fun c_6 => ?_)
          · obtain ⟨v_7, e_7⟩ : ∃ y : Int32, y = (Int32.ofNat k) + 1 := ⟨_, rfl⟩
            refine z_iinc (lv' := [(7, .int v_7), (0, .ref p), (1, .ref r), (2, .int set), (3, .int d), (4, .long own), (6, .int s)]) 6 v_7 dX3_placeAmong_48 rfl (by rw [e_7]; rfl) (Nat.le_of_ble_eq_true rfl) rfl ?_
            refine z_goto 14 dX3_placeAmong_51 (by decide) ?_
            obtain rfl : v_7 = Int32.ofNat (k + 1) := e_7.trans (nat_succ k)
            refine z_sub [1,2,3,4,5,6,0] rfl ?_
            exact ih14 (k + 1) _ _ (by omega) ho (hr.trans (congrArg (sfold _ n (k + 1)) (by subst_vars; simp [c_3, c_4, c_6])))
          · obtain ⟨v_8, e_8⟩ : ∃ y : Int32, y = s + 1 := ⟨_, rfl⟩
            refine z_iinc (lv' := [(6, .int v_8), (0, .ref p), (1, .ref r), (2, .int set), (3, .int d), (4, .long own), (7, .int (Int32.ofNat k))]) 5 v_8 dX3_placeAmong_45 rfl (by rw [e_8]; rfl) (Nat.le_of_ble_eq_true rfl) rfl ?_
            obtain ⟨v_9, e_9⟩ : ∃ y : Int32, y = (Int32.ofNat k) + 1 := ⟨_, rfl⟩
            refine z_iinc (lv' := [(7, .int v_9), (6, .int v_8), (0, .ref p), (1, .ref r), (2, .int set), (3, .int d), (4, .long own)]) 6 v_9 dX3_placeAmong_48 rfl (by rw [e_9]; rfl) (Nat.le_of_ble_eq_true rfl) rfl ?_
            refine z_goto 14 dX3_placeAmong_51 (by decide) ?_
            obtain rfl : v_9 = Int32.ofNat (k + 1) := e_9.trans (nat_succ k)
            refine z_sub [2,3,4,5,6,1,0] rfl ?_
            exact ih14 (k + 1) _ _ (by omega) ho (hr.trans (congrArg (sfold _ n (k + 1)) (by subst_vars; simp [c_3, c_4, c_6])))
  refine z_sub [3,4,5,6,2,1,0] rfl ?_
  exact loop14 D 0 _ _ (by omega) e_1 rfl
set_option maxRecDepth 100000 in
set_option maxHeartbeats 4000000 in
theorem c_first {m : zmem} {p r C D : Nat} {set : Int32} (hP : isPar p) (hR : isCus r) (hC : m r 1 = Int32.ofNat C) (hC4 : C ≤ 4) (hD : m p 1 = Int32.ofNat D) (hD7 : D ≤ 7) : Ei MX3_firstAmong 4 [.ref p, .ref r, .int set] m ((sfirst m p r C D set).1) (m) := by
  refine Ei.of (by decide) (Nat.le_of_ble_eq_true rfl) ?_
  show Z _ 0 [(0, .ref p), (1, .ref r), (2, .int set)] _ _ _ _
  refine z_iconst (-1) dX3_firstAmong_0 (by decide) ?_
  refine z_istore_n (lv' := [(3, .int (-1)), (0, .ref p), (1, .ref r), (2, .int set)]) dX3_firstAmong_1 rfl (Nat.le_of_ble_eq_true rfl) rfl ?_
  refine z_ldc2 (-1) dX3_firstAmong_2 nX3_168 ?_
  refine z_lstore (lv' := [(4, .long (-1)), (3, .int (-1)), (0, .ref p), (1, .ref r), (2, .int set)]) dX3_firstAmong_5 (Nat.le_of_ble_eq_true rfl) rfl ?_
  refine z_iconst 0 dX3_firstAmong_7 (by decide) ?_
  refine z_istore (lv' := [(6, .int 0), (4, .long (-1)), (3, .int (-1)), (0, .ref p), (1, .ref r), (2, .int set)]) dX3_firstAmong_8 (Nat.le_of_ble_eq_true rfl) rfl ?_
  have loop10 : ∀ (n : Nat) (k : Nat) (s : Int32) (u : Int64), k + n = D → sfirst m p r C D set = sfold (fun k s => if shas set (Int32.ofNat k) = 0 then s else if lg_cmp (surg m p r C (Int32.ofNat k)) s.2 ≤ 0 then s else (Int32.ofNat k, surg m p r C (Int32.ofNat k))) n k (s, u) → Z (zMB (Qi ((sfirst m p r C D set).1) (m)) 4 MX3_firstAmong) 10 [(0, .ref p), (1, .ref r), (2, .int set), (3, .int s), (4, .long u), (6, .int (Int32.ofNat k))] [] (hp m) 0 0 := by
    intro n
    induction n with
    | zero =>
      intro k s u hk hr
      refine z_iload 5 dX3_firstAmong_10 rfl ?_
      refine z_aload_n 0 dX3_firstAmong_12 rfl rfl ?_
      refine y_getI fX3_15 dX3_firstAmong_13 hP.1 rfl ?_
      refine z_icmp_ge 61 dX3_firstAmong_16 (by decide) (fun c_1 => ?_) (fun c_1 => ?_)
      · refine z_iload_n 3 dX3_firstAmong_61 rfl rfl ?_
        exact y_iret dX3_firstAmong_62 rfl (by rw [hr]; rfl) rfl
      · exact (dz rfl hD (by omega) (by omega) c_1).elim
    | succ n ih10 =>
      intro k s u hk hr
      refine z_iload 5 dX3_firstAmong_10 rfl ?_
      refine z_aload_n 0 dX3_firstAmong_12 rfl rfl ?_
      refine y_getI fX3_15 dX3_firstAmong_13 hP.1 rfl ?_
      refine z_icmp_ge 61 dX3_firstAmong_16 (by decide) (fun c_2 => ?_) (fun c_2 => ?_)
      · exact (ds rfl hD (by omega) (by omega) c_2).elim
      · refine z_iload_n 2 dX3_firstAmong_19 rfl rfl ?_
        refine z_iload 5 dX3_firstAmong_20 rfl ?_
        refine y_Si [_, _] _ kX3_138 c_has dX3_firstAmong_22 rfl rfl (Nat.le_of_ble_eq_true rfl) (Nat.le_of_ble_eq_true rfl) ⟨Nat.zero_le _, Nat.zero_le _⟩ ?_
        refine z_if_ne 31 dX3_firstAmong_25 (by decide) (fun c_3 => ?_) (fun c_3 => ?_)
        · refine z_aload_n 0 dX3_firstAmong_31 rfl rfl ?_
          refine z_aload_n 1 dX3_firstAmong_32 rfl rfl ?_
          refine z_iload 5 dX3_firstAmong_33 rfl ?_
          refine y_Vl [_, _] _ kX3_165 (c_urg hP hR hC hC4) rfl hP.1 dX3_firstAmong_35 rfl rfl (Nat.le_of_ble_eq_true rfl) (Nat.le_of_ble_eq_true rfl) ⟨Nat.zero_le _, Nat.zero_le _⟩ ?_
          refine z_topl (fun v_4 e_4 => ?_)
          refine z_lstore (lv' := [(7, .long v_4), (0, .ref p), (1, .ref r), (2, .int set), (3, .int s), (4, .long u), (6, .int (Int32.ofNat k))]) dX3_firstAmong_38 (Nat.le_of_ble_eq_true rfl) rfl ?_
          refine z_lload 0 dX3_firstAmong_40 rfl ?_
          refine z_lload 5 dX3_firstAmong_42 rfl ?_
          refine z_lcmp dX3_firstAmong_44 ?_
          refine z_if_le 55 dX3_firstAmong_45 (by decide) (fun c_5 => ?_) (fun c_5 => ?_)
          · obtain ⟨v_6, e_6⟩ : ∃ y : Int32, y = (Int32.ofNat k) + 1 := ⟨_, rfl⟩
            refine z_iinc (lv' := [(6, .int v_6), (7, .long v_4), (0, .ref p), (1, .ref r), (2, .int set), (3, .int s), (4, .long u)]) 6 v_6 dX3_firstAmong_55 rfl (by rw [e_6]; rfl) (Nat.le_of_ble_eq_true rfl) rfl ?_
            refine z_goto 10 dX3_firstAmong_58 (by decide) ?_
            obtain rfl : v_6 = Int32.ofNat (k + 1) := e_6.trans (nat_succ k)
            refine z_sub [2,3,4,5,6,0] rfl ?_
            exact ih10 (k + 1) _ _ (by omega) (hr.trans (congrArg (sfold _ n (k + 1)) (by subst_vars; simp [c_2, c_3, c_5])))
          · refine z_lload 0 dX3_firstAmong_48 rfl ?_
            refine z_lstore (lv' := [(4, .long v_4), (7, .long v_4), (0, .ref p), (1, .ref r), (2, .int set), (3, .int s), (6, .int (Int32.ofNat k))]) dX3_firstAmong_50 (Nat.le_of_ble_eq_true rfl) rfl ?_
            refine z_iload 6 dX3_firstAmong_52 rfl ?_
            refine z_istore_n (lv' := [(3, .int (Int32.ofNat k)), (4, .long v_4), (7, .long v_4), (0, .ref p), (1, .ref r), (2, .int set), (6, .int (Int32.ofNat k))]) dX3_firstAmong_54 rfl (Nat.le_of_ble_eq_true rfl) rfl ?_
            obtain ⟨v_7, e_7⟩ : ∃ y : Int32, y = (Int32.ofNat k) + 1 := ⟨_, rfl⟩
            refine z_iinc (lv' := [(6, .int v_7), (3, .int (Int32.ofNat k)), (4, .long v_4), (7, .long v_4), (0, .ref p), (1, .ref r), (2, .int set)]) 6 v_7 dX3_firstAmong_55 rfl (by rw [e_7]; rfl) (Nat.le_of_ble_eq_true rfl) rfl ?_
            refine z_goto 10 dX3_firstAmong_58 (by decide) ?_
            obtain rfl : v_7 = Int32.ofNat (k + 1) := e_7.trans (nat_succ k)
            refine z_sub [4,5,6,1,2,0] rfl ?_
            exact ih10 (k + 1) _ _ (by omega) (hr.trans (congrArg (sfold _ n (k + 1)) (by subst_vars; simp [c_2, c_3, c_5])))
        · refine z_goto 55 dX3_firstAmong_28 (by decide) ?_
          obtain ⟨v_8, e_8⟩ : ∃ y : Int32, y = (Int32.ofNat k) + 1 := ⟨_, rfl⟩
          refine z_iinc (lv' := [(6, .int v_8), (0, .ref p), (1, .ref r), (2, .int set), (3, .int s), (4, .long u)]) 5 v_8 dX3_firstAmong_55 rfl (by rw [e_8]; rfl) (Nat.le_of_ble_eq_true rfl) rfl ?_
          refine z_goto 10 dX3_firstAmong_58 (by decide) ?_
          obtain rfl : v_8 = Int32.ofNat (k + 1) := e_8.trans (nat_succ k)
          refine z_sub [1,2,3,4,5,0] rfl ?_
          exact ih10 (k + 1) _ _ (by omega) (hr.trans (congrArg (sfold _ n (k + 1)) (by subst_vars; simp [c_2, c_3])))
  refine z_sub [3,4,5,2,1,0] rfl ?_
  exact loop10 D 0 _ _ (by omega) rfl
set_option maxRecDepth 100000 in
set_option maxHeartbeats 4000000 in
theorem c_thaw {m : zmem} {p : Nat} {i h : Int32} (hP : isPar p) : Ei MX3_thawOf 1 [.ref p, .int i, .int h] m (sthaw m p i h) (m) := by
  refine Ei.of (by decide) (Nat.le_of_ble_eq_true rfl) ?_
  show Z _ 0 [(0, .ref p), (1, .int i), (2, .int h)] _ _ _ _
  refine z_iconst 0 dX3_thawOf_0 (by decide) ?_
  refine z_iload_n 2 dX3_thawOf_1 rfl rfl ?_
  refine z_aload_n 0 dX3_thawOf_2 rfl rfl ?_
  refine y_getI fX3_18 dX3_thawOf_3 hP.1 rfl ?_
  refine z_imul dX3_thawOf_6 ?_
  refine z_aload_n 0 dX3_thawOf_7 rfl rfl ?_
  refine y_getI fX3_21 dX3_thawOf_8 hP.1 rfl ?_
  refine z_iload_n 1 dX3_thawOf_11 rfl rfl ?_
  refine z_imul dX3_thawOf_12 ?_
  refine z_isub dX3_thawOf_13 ?_
  refine z_mmax lX3_170 zh_max zh_mi zh_maxc dX3_thawOf_14 (Nat.le_of_ble_eq_true rfl) (Nat.le_of_ble_eq_true rfl) (Nat.zero_le _) (Nat.zero_le _) ?_
  exact y_iret dX3_thawOf_17 rfl rfl rfl
set_option maxRecDepth 100000 in
set_option maxHeartbeats 4000000 in
theorem c_day {m : zmem} {p D Y : Nat} {heat : Int32} (hP : isPar p) (hD : m p 1 = Int32.ofNat D) (hD7 : D ≤ 7) (hY : m p 0 = Int32.ofNat Y) (hY8 : Y ≤ 8) : E0 MX3_passDay 3 [.ref p, .int heat] m (sday m p D Y heat) := by
  refine E0.of (by decide) (Nat.le_of_ble_eq_true rfl) ?_
  show Z _ 0 [(0, .ref p), (1, .int heat)] _ _ _ _
  refine z_aload_n 0 dX3_passDay_0 rfl rfl ?_
  refine y_Vi [] _ kX3_132 (c_taken hP hD hD7) rfl hP.1 dX3_passDay_1 rfl rfl (Nat.le_of_ble_eq_true rfl) (Nat.le_of_ble_eq_true rfl) ⟨Nat.zero_le _, Nat.zero_le _⟩ ?_
  refine z_topi (fun v_1 e_1 => ?_)
  refine z_istore_n (lv' := [(2, .int v_1), (0, .ref p), (1, .int heat)]) dX3_passDay_4 rfl (Nat.le_of_ble_eq_true rfl) rfl ?_
  refine z_iconst 0 dX3_passDay_5 (by decide) ?_
  refine z_istore_n (lv' := [(3, .int 0), (2, .int v_1), (0, .ref p), (1, .int heat)]) dX3_passDay_6 rfl (Nat.le_of_ble_eq_true rfl) rfl ?_
  have loop7 : ∀ (n : Nat) (k : Nat) (tk : Int32) (mm : zmem), k + n = Y → mm p 0 = Int32.ofNat Y → mm p 1 = Int32.ofNat D → tk = staken m p D → sday m p D Y heat = spwAll p D (sfold (spd2 p (staken m p D) heat) n k mm) → Z (zMB (Q0 (sday m p D Y heat)) 3 MX3_passDay) 7 [(0, .ref p), (1, .int heat), (2, .int tk), (3, .int (Int32.ofNat k))] [] (hp mm) 0 0 := by
    intro n
    induction n with
    | zero =>
      intro k tk mm hk hYm hDm ht hr
      refine z_iload_n 3 dX3_passDay_7 rfl rfl ?_
      refine z_aload_n 0 dX3_passDay_8 rfl rfl ?_
      refine y_getI fX3_9 dX3_passDay_9 hP.1 rfl ?_
      refine z_icmp_ge 85 dX3_passDay_12 (by decide) (fun c_2 => ?_) (fun c_2 => ?_)
      · obtain ⟨mz, hmz⟩ : ∃ z, z = mm := ⟨_, rfl⟩
        rw [show spwAll p D (sfold (spd2 p (staken m p D) heat) 0 k mm) = sfold (spw p (swait mz p D)) D 0 mm from by rw [hmz]; rfl] at hr
        refine z_aload_n 0 dX3_passDay_85 rfl rfl ?_
        refine y_Vi [] _ kX3_135 (c_waiting hP hDm hD7) rfl hP.1 dX3_passDay_86 rfl rfl (Nat.le_of_ble_eq_true rfl) (Nat.le_of_ble_eq_true rfl) ⟨Nat.zero_le _, Nat.zero_le _⟩ ?_
        refine z_topi (fun v_3 e_3 => ?_)
        refine z_istore_n (lv' := [(3, .int v_3), (0, .ref p), (1, .int heat), (2, .int tk)]) dX3_passDay_89 rfl (Nat.le_of_ble_eq_true rfl) rfl ?_
        refine z_iconst 0 dX3_passDay_90 (by decide) ?_
        refine z_istore (lv' := [(4, .int 0), (3, .int v_3), (0, .ref p), (1, .int heat), (2, .int tk)]) dX3_passDay_91 (Nat.le_of_ble_eq_true rfl) rfl ?_
        have loop93 : ∀ (n : Nat) (k : Nat) (lf : Int32) (mm : zmem), k + n = D → mm p 1 = Int32.ofNat D → lf = swait mz p D → sday m p D Y heat = sfold (spw p (swait mz p D)) n k mm → Z (zMB (Q0 (sday m p D Y heat)) 3 MX3_passDay) 93 [(0, .ref p), (3, .int lf), (4, .int (Int32.ofNat k))] [] (hp mm) 0 0 := by
          intro n
          induction n with
          | zero =>
            intro k lf mm hk hDm hl hr
            refine z_iload 2 dX3_passDay_93 rfl ?_
            refine z_aload_n 0 dX3_passDay_95 rfl rfl ?_
            refine y_getI fX3_15 dX3_passDay_96 hP.1 rfl ?_
            refine z_icmp_ge 143 dX3_passDay_99 (by decide) (fun c_4 => ?_) (fun c_4 => ?_)
            · exact y_vret dX3_passDay_143 rfl hr.symm
            · exact (dz rfl hDm (by omega) (by omega) c_4).elim
          | succ n ih93 =>
            intro k lf mm hk hDm hl hr
            refine z_iload 2 dX3_passDay_93 rfl ?_
            refine z_aload_n 0 dX3_passDay_95 rfl rfl ?_
            refine y_getI fX3_15 dX3_passDay_96 hP.1 rfl ?_
            refine z_icmp_ge 143 dX3_passDay_99 (by decide) (fun c_5 => ?_) (fun c_5 => ?_)
            · exact (ds rfl hDm (by omega) (by omega) c_5).elim
            · refine z_iload_n 1 dX3_passDay_102 rfl rfl ?_
              refine z_iload 2 dX3_passDay_103 rfl ?_
              refine y_Si [_, _] _ kX3_138 c_has dX3_passDay_105 rfl rfl (Nat.le_of_ble_eq_true rfl) (Nat.le_of_ble_eq_true rfl) ⟨Nat.zero_le _, Nat.zero_le _⟩ ?_
              refine z_if_eq 137 dX3_passDay_108 (by decide) (fun c_6 => ?_) (fun c_6 => ?_)
              · obtain ⟨v_7, e_7⟩ : ∃ y : Int32, y = (Int32.ofNat k) + 1 := ⟨_, rfl⟩
                refine z_iinc (lv' := [(4, .int v_7), (0, .ref p), (3, .int lf)]) 2 v_7 dX3_passDay_137 rfl (by rw [e_7]; rfl) (Nat.le_of_ble_eq_true rfl) rfl ?_
                refine z_goto 93 dX3_passDay_140 (by decide) ?_
                obtain rfl : v_7 = Int32.ofNat (k + 1) := e_7.trans (nat_succ k)
                refine z_sub [1,2,0] rfl ?_
                exact ih93 (k + 1) _ _ (by omega) (by simpa [aput_ne, mset] using hDm) hl (hr.trans (congrArg (sfold _ n (k + 1)) (by subst_vars; simp [spw, smin, c_5, c_6])))
              · refine z_aload_n 0 dX3_passDay_111 rfl rfl ?_
                refine y_getR fX3_31 dX3_passDay_112 hP.1 rfl ?_
                refine z_iload 2 dX3_passDay_115 rfl ?_
                refine z_sipush 9999 dX3_passDay_117 (by decide) ?_
                refine z_aload_n 0 dX3_passDay_120 rfl rfl ?_
                refine y_getR fX3_31 dX3_passDay_121 hP.1 rfl ?_
                refine z_iload 2 dX3_passDay_124 rfl ?_
                refine y_Si [_, _] _ kX3_118 (c_at hP.2.2.2.1 (by decide)) dX3_passDay_126 rfl rfl (Nat.le_of_ble_eq_true rfl) (Nat.le_of_ble_eq_true rfl) ⟨Nat.zero_le _, Nat.zero_le _⟩ ?_
                refine z_iconst 1 dX3_passDay_129 (by decide) ?_
                refine z_iadd dX3_passDay_130 ?_
                refine z_mmin lX3_178 zh_min zh_mi zh_minc dX3_passDay_131 (Nat.le_of_ble_eq_true rfl) (Nat.le_of_ble_eq_true rfl) (Nat.zero_le _) (Nat.zero_le _) ?_
                refine y_S0 [_, _, _] _ kX3_110 (c_put hP.2.2.2.1 (by decide)) dX3_passDay_134 rfl rfl (Nat.le_of_ble_eq_true rfl) (Nat.le_of_ble_eq_true rfl) ⟨Nat.zero_le _, Nat.zero_le _⟩ ?_
                obtain ⟨v_8, e_8⟩ : ∃ y : Int32, y = (Int32.ofNat k) + 1 := ⟨_, rfl⟩
                refine z_iinc (lv' := [(4, .int v_8), (0, .ref p), (3, .int lf)]) 2 v_8 dX3_passDay_137 rfl (by rw [e_8]; rfl) (Nat.le_of_ble_eq_true rfl) rfl ?_
                refine z_goto 93 dX3_passDay_140 (by decide) ?_
                obtain rfl : v_8 = Int32.ofNat (k + 1) := e_8.trans (nat_succ k)
                refine z_sub [1,2,0] rfl ?_
                exact ih93 (k + 1) _ _ (by omega) (by simpa [aput_ne, mset] using hDm) hl (hr.trans (congrArg (sfold _ n (k + 1)) (by subst_vars; simp [spw, smin, c_5, c_6])))
        refine z_sub [2,1,0] rfl ?_
        exact loop93 D 0 _ _ (by omega) hDm (by rw [hmz]; exact e_3) hr
      · exact (dz rfl hYm (by omega) (by omega) c_2).elim
    | succ n ih7 =>
      intro k tk mm hk hYm hDm ht hr
      refine z_iload_n 3 dX3_passDay_7 rfl rfl ?_
      refine z_aload_n 0 dX3_passDay_8 rfl rfl ?_
      refine y_getI fX3_9 dX3_passDay_9 hP.1 rfl ?_
      refine z_icmp_ge 85 dX3_passDay_12 (by decide) (fun c_9 => ?_) (fun c_9 => ?_)
      · exact (ds rfl hYm (by omega) (by omega) c_9).elim
      · refine z_aload_n 0 dX3_passDay_15 rfl rfl ?_
        refine y_getR fX3_24 dX3_passDay_16 hP.1 rfl ?_
        refine z_iload_n 3 dX3_passDay_19 rfl rfl ?_
        refine y_Si [_, _] _ kX3_118 (c_at hP.2.1 (by decide)) dX3_passDay_20 rfl rfl (Nat.le_of_ble_eq_true rfl) (Nat.le_of_ble_eq_true rfl) ⟨Nat.zero_le _, Nat.zero_le _⟩ ?_
        refine z_topi (fun v_10 e_10 => ?_)
        refine z_istore (lv' := [(4, .int v_10), (0, .ref p), (1, .int heat), (2, .int tk), (3, .int (Int32.ofNat k))]) dX3_passDay_23 (Nat.le_of_ble_eq_true rfl) rfl ?_
        refine z_iload_n 2 dX3_passDay_25 rfl rfl ?_
        refine z_if_le 50 dX3_passDay_26 (by decide) (fun c_11 => ?_) (fun c_11 => ?_)
        · refine z_iload_n 2 dX3_passDay_50 rfl rfl ?_
          refine z_if_ge 79 dX3_passDay_51 (by decide) (fun c_12 => ?_) (fun c_12 => ?_)
          · obtain ⟨v_13, e_13⟩ : ∃ y : Int32, y = (Int32.ofNat k) + 1 := ⟨_, rfl⟩
            refine z_iinc (lv' := [(3, .int v_13), (4, .int v_10), (0, .ref p), (1, .int heat), (2, .int tk)]) 4 v_13 dX3_passDay_79 rfl (by rw [e_13]; rfl) (Nat.le_of_ble_eq_true rfl) rfl ?_
            refine z_goto 7 dX3_passDay_82 (by decide) ?_
            obtain rfl : v_13 = Int32.ofNat (k + 1) := e_13.trans (nat_succ k)
            refine z_sub [2,3,4,0] rfl ?_
            exact ih7 (k + 1) _ _ (by omega) (by simpa [aput_ne, mset] using hYm) (by simpa [aput_ne, mset] using hDm) ht (hr.trans (congrArg (fun z => spwAll p D (sfold _ n (k + 1) z)) (by subst_vars; simp [spd2, spd1, smax, smin, c_9, c_11, c_12])))
          · refine z_iload_n 3 dX3_passDay_54 rfl rfl ?_
            refine z_iload_n 4 dX3_passDay_55 rfl rfl ?_
            refine y_Si [_, _] _ kX3_138 c_has dX3_passDay_56 rfl rfl (Nat.le_of_ble_eq_true rfl) (Nat.le_of_ble_eq_true rfl) ⟨Nat.zero_le _, Nat.zero_le _⟩ ?_
            refine z_if_ne 79 dX3_passDay_59 (by decide) (fun c_14 => ?_) (fun c_14 => ?_)
            · obtain ⟨v_15, e_15⟩ : ∃ y : Int32, y = (Int32.ofNat k) + 1 := ⟨_, rfl⟩
              refine z_iinc (lv' := [(3, .int v_15), (4, .int v_10), (0, .ref p), (1, .int heat), (2, .int tk)]) 4 v_15 dX3_passDay_79 rfl (by rw [e_15]; rfl) (Nat.le_of_ble_eq_true rfl) rfl ?_
              refine z_goto 7 dX3_passDay_82 (by decide) ?_
              obtain rfl : v_15 = Int32.ofNat (k + 1) := e_15.trans (nat_succ k)
              refine z_sub [2,3,4,0] rfl ?_
              exact ih7 (k + 1) _ _ (by omega) (by simpa [aput_ne, mset] using hYm) (by simpa [aput_ne, mset] using hDm) ht (hr.trans (congrArg (fun z => spwAll p D (sfold _ n (k + 1) z)) (by subst_vars; simp [spd2, spd1, smax, smin, c_9, c_11, c_12, c_14])))
            · refine z_aload_n 1 dX3_passDay_62 rfl rfl ?_
              refine y_getR fX3_24 dX3_passDay_63 hP.1 rfl ?_
              refine z_iload_n 4 dX3_passDay_66 rfl rfl ?_
              refine z_bipush 99 dX3_passDay_67 (by decide) ?_
              refine z_iload 0 dX3_passDay_69 rfl ?_
              refine z_iload_n 2 dX3_passDay_71 rfl rfl ?_
              refine z_isub dX3_passDay_72 ?_
              refine z_mmin lX3_178 zh_min zh_mi zh_minc dX3_passDay_73 (Nat.le_of_ble_eq_true rfl) (Nat.le_of_ble_eq_true rfl) (Nat.zero_le _) (Nat.zero_le _) ?_
              refine y_S0 [_, _, _] _ kX3_110 (c_put hP.2.1 (by decide)) dX3_passDay_76 rfl rfl (Nat.le_of_ble_eq_true rfl) (Nat.le_of_ble_eq_true rfl) ⟨Nat.zero_le _, Nat.zero_le _⟩ ?_
              obtain ⟨v_16, e_16⟩ : ∃ y : Int32, y = (Int32.ofNat k) + 1 := ⟨_, rfl⟩
              refine z_iinc (lv' := [(3, .int v_16), (4, .int v_10), (0, .ref p), (1, .int heat), (2, .int tk)]) 4 v_16 dX3_passDay_79 rfl (by rw [e_16]; rfl) (Nat.le_of_ble_eq_true rfl) rfl ?_
              refine z_goto 7 dX3_passDay_82 (by decide) ?_
              obtain rfl : v_16 = Int32.ofNat (k + 1) := e_16.trans (nat_succ k)
              refine z_sub [2,3,4,0] rfl ?_
              exact ih7 (k + 1) _ _ (by omega) (by simpa [aput_ne, mset] using hYm) (by simpa [aput_ne, mset] using hDm) ht (hr.trans (congrArg (fun z => spwAll p D (sfold _ n (k + 1) z)) (by subst_vars; simp [spd2, spd1, smax, smin, c_9, c_11, c_12, c_14])))
        · refine z_aload_n 1 dX3_passDay_29 rfl rfl ?_
          refine y_getR fX3_24 dX3_passDay_30 hP.1 rfl ?_
          refine z_iload_n 4 dX3_passDay_33 rfl rfl ?_
          refine z_iconst 0 dX3_passDay_34 (by decide) ?_
          refine z_iload 0 dX3_passDay_35 rfl ?_
          refine z_aload_n 1 dX3_passDay_37 rfl rfl ?_
          refine z_iload_n 4 dX3_passDay_38 rfl rfl ?_
          refine z_iload_n 2 dX3_passDay_39 rfl rfl ?_
          refine y_Vi [_, _] _ kX3_175 (c_thaw hP) rfl hP.1 dX3_passDay_40 rfl rfl (Nat.le_of_ble_eq_true rfl) (Nat.le_of_ble_eq_true rfl) ⟨Nat.zero_le _, Nat.zero_le _⟩ ?_
          refine z_isub dX3_passDay_43 ?_
          refine z_mmax lX3_170 zh_max zh_mi zh_maxc dX3_passDay_44 (Nat.le_of_ble_eq_true rfl) (Nat.le_of_ble_eq_true rfl) (Nat.zero_le _) (Nat.zero_le _) ?_
          refine y_S0 [_, _, _] _ kX3_110 (c_put hP.2.1 (by decide)) dX3_passDay_47 rfl rfl (Nat.le_of_ble_eq_true rfl) (Nat.le_of_ble_eq_true rfl) ⟨Nat.zero_le _, Nat.zero_le _⟩ ?_
          refine z_iload_n 2 dX3_passDay_50 rfl rfl ?_
          refine z_if_ge 79 dX3_passDay_51 (by decide) (fun c_17 => ?_) (fun c_17 => ?_)
          · obtain ⟨v_18, e_18⟩ : ∃ y : Int32, y = (Int32.ofNat k) + 1 := ⟨_, rfl⟩
            refine z_iinc (lv' := [(3, .int v_18), (4, .int v_10), (0, .ref p), (1, .int heat), (2, .int tk)]) 4 v_18 dX3_passDay_79 rfl (by rw [e_18]; rfl) (Nat.le_of_ble_eq_true rfl) rfl ?_
            refine z_goto 7 dX3_passDay_82 (by decide) ?_
            obtain rfl : v_18 = Int32.ofNat (k + 1) := e_18.trans (nat_succ k)
            refine z_sub [2,3,4,0] rfl ?_
            exact ih7 (k + 1) _ _ (by omega) (by simpa [aput_ne, mset] using hYm) (by simpa [aput_ne, mset] using hDm) ht (hr.trans (congrArg (fun z => spwAll p D (sfold _ n (k + 1) z)) (by subst_vars; simp [spd2, spd1, smax, smin, c_9, c_11, c_17])))
          · refine z_iload_n 3 dX3_passDay_54 rfl rfl ?_
            refine z_iload_n 4 dX3_passDay_55 rfl rfl ?_
            refine y_Si [_, _] _ kX3_138 c_has dX3_passDay_56 rfl rfl (Nat.le_of_ble_eq_true rfl) (Nat.le_of_ble_eq_true rfl) ⟨Nat.zero_le _, Nat.zero_le _⟩ ?_
            refine z_if_ne 79 dX3_passDay_59 (by decide) (fun c_19 => ?_) (fun c_19 => ?_)
            · obtain ⟨v_20, e_20⟩ : ∃ y : Int32, y = (Int32.ofNat k) + 1 := ⟨_, rfl⟩
              refine z_iinc (lv' := [(3, .int v_20), (4, .int v_10), (0, .ref p), (1, .int heat), (2, .int tk)]) 4 v_20 dX3_passDay_79 rfl (by rw [e_20]; rfl) (Nat.le_of_ble_eq_true rfl) rfl ?_
              refine z_goto 7 dX3_passDay_82 (by decide) ?_
              obtain rfl : v_20 = Int32.ofNat (k + 1) := e_20.trans (nat_succ k)
              refine z_sub [2,3,4,0] rfl ?_
              exact ih7 (k + 1) _ _ (by omega) (by simpa [aput_ne, mset] using hYm) (by simpa [aput_ne, mset] using hDm) ht (hr.trans (congrArg (fun z => spwAll p D (sfold _ n (k + 1) z)) (by subst_vars; simp [spd2, spd1, smax, smin, c_9, c_11, c_17, c_19])))
            · refine z_aload_n 1 dX3_passDay_62 rfl rfl ?_
              refine y_getR fX3_24 dX3_passDay_63 hP.1 rfl ?_
              refine z_iload_n 4 dX3_passDay_66 rfl rfl ?_
              refine z_bipush 99 dX3_passDay_67 (by decide) ?_
              refine z_iload 0 dX3_passDay_69 rfl ?_
              refine z_iload_n 2 dX3_passDay_71 rfl rfl ?_
              refine z_isub dX3_passDay_72 ?_
              refine z_mmin lX3_178 zh_min zh_mi zh_minc dX3_passDay_73 (Nat.le_of_ble_eq_true rfl) (Nat.le_of_ble_eq_true rfl) (Nat.zero_le _) (Nat.zero_le _) ?_
              refine y_S0 [_, _, _] _ kX3_110 (c_put hP.2.1 (by decide)) dX3_passDay_76 rfl rfl (Nat.le_of_ble_eq_true rfl) (Nat.le_of_ble_eq_true rfl) ⟨Nat.zero_le _, Nat.zero_le _⟩ ?_
              obtain ⟨v_21, e_21⟩ : ∃ y : Int32, y = (Int32.ofNat k) + 1 := ⟨_, rfl⟩
              refine z_iinc (lv' := [(3, .int v_21), (4, .int v_10), (0, .ref p), (1, .int heat), (2, .int tk)]) 4 v_21 dX3_passDay_79 rfl (by rw [e_21]; rfl) (Nat.le_of_ble_eq_true rfl) rfl ?_
              refine z_goto 7 dX3_passDay_82 (by decide) ?_
              obtain rfl : v_21 = Int32.ofNat (k + 1) := e_21.trans (nat_succ k)
              refine z_sub [2,3,4,0] rfl ?_
              exact ih7 (k + 1) _ _ (by omega) (by simpa [aput_ne, mset] using hYm) (by simpa [aput_ne, mset] using hDm) ht (hr.trans (congrArg (fun z => spwAll p D (sfold _ n (k + 1) z)) (by subst_vars; simp [spd2, spd1, smax, smin, c_9, c_11, c_17, c_19])))
  refine z_sub [2,3,1,0] rfl ?_
  exact loop7 Y 0 _ _ (by omega) hY hD e_1 rfl
set_option maxRecDepth 100000 in
set_option maxHeartbeats 4000000 in
theorem c_draw {m : zmem} {p : Nat} {n : Int32} (hP : isPar p) : Ei MX3_draw 0 [.ref p, .int n] m (sdraw (schance (m p 15)) n) (mset m p 15 (schance (m p 15))) := by
  refine Ei.of (by decide) (Nat.le_of_ble_eq_true rfl) ?_
  show Z _ 0 [(0, .ref p), (1, .int n)] _ _ _ _
  refine z_aload_n 0 dX3_draw_0 rfl rfl ?_
  refine z_aload_n 0 dX3_draw_1 rfl rfl ?_
  refine y_getI fX3_58 dX3_draw_2 hP.1 rfl ?_
  refine z_i2l dX3_draw_5 ?_
  refine z_ldc2 1103515245 dX3_draw_6 nX3_181 ?_
  refine z_lmul dX3_draw_9 ?_
  refine z_ldc2 12345 dX3_draw_10 nX3_183 ?_
  refine z_ladd dX3_draw_13 ?_
  refine z_ldc2 2147483647 dX3_draw_14 nX3_185 ?_
  refine z_land dX3_draw_17 ?_
  refine z_l2i dX3_draw_18 ?_
  refine y_putI fX3_58 dX3_draw_19 hP.1 rfl ?_
  refine z_iload_n 1 dX3_draw_22 rfl rfl ?_
  refine z_if_le 38 dX3_draw_23 (by decide) (fun c_1 => ?_) (fun c_1 => ?_)
  · refine z_iconst 0 dX3_draw_38 (by decide) ?_
    exact y_iret dX3_draw_39 rfl (by simp [sdraw, srem, mset, schance, c_1]) rfl
  · refine z_aload_n 0 dX3_draw_26 rfl rfl ?_
    refine y_getI fX3_58 dX3_draw_27 hP.1 rfl ?_
    refine z_ldc 65536 dX3_draw_30 nX3_187 ?_
    refine z_idiv dX3_draw_32 (by decide) ?_
    refine z_iload_n 1 dX3_draw_33 rfl rfl ?_
    refine z_irem dX3_draw_34 (fun q => c_1 (by rw [q]; decide)) ?_
    refine z_goto 39 dX3_draw_35 (by decide) ?_
    exact y_iret dX3_draw_39 rfl (by simp [sdraw, srem, mset, schance, c_1]) rfl
set_option maxRecDepth 100000 in
set_option maxHeartbeats 4000000 in
theorem c_night {m : zmem} {p D : Nat} {r : Int32} (hP : isPar p) (hD : m p 1 = Int32.ofNat D) (hD7 : D ≤ 7) : E0 MX3_passNight 3 [.ref p, .int r] m (snight m p D r) := by
  refine E0.of (by decide) (Nat.le_of_ble_eq_true rfl) ?_
  show Z _ 0 [(0, .ref p), (1, .int r)] _ _ _ _
  refine z_aload_n 0 dX3_passNight_0 rfl rfl ?_
  refine y_Vi [] _ kX3_135 (c_waiting hP hD hD7) rfl hP.1 dX3_passNight_1 rfl rfl (Nat.le_of_ble_eq_true rfl) (Nat.le_of_ble_eq_true rfl) ⟨Nat.zero_le _, Nat.zero_le _⟩ ?_
  refine z_topi (fun v_1 e_1 => ?_)
  refine z_istore_n (lv' := [(2, .int v_1), (0, .ref p), (1, .int r)]) dX3_passNight_4 rfl (Nat.le_of_ble_eq_true rfl) rfl ?_
  refine z_iconst 0 dX3_passNight_5 (by decide) ?_
  refine z_istore_n (lv' := [(3, .int 0), (2, .int v_1), (0, .ref p), (1, .int r)]) dX3_passNight_6 rfl (Nat.le_of_ble_eq_true rfl) rfl ?_
  have loop7 : ∀ (n : Nat) (k : Nat) (lf : Int32) (mm : zmem), k + n = D → mm p 1 = Int32.ofNat D → lf = swait m p D → snight m p D r = sfold (spn p (swait m p D) r) n k mm → Z (zMB (Q0 (snight m p D r)) 3 MX3_passNight) 7 [(0, .ref p), (1, .int r), (2, .int lf), (3, .int (Int32.ofNat k))] [] (hp mm) 0 0 := by
    intro n
    induction n with
    | zero =>
      intro k lf mm hk hDm hl hr
      refine z_iload_n 3 dX3_passNight_7 rfl rfl ?_
      refine z_aload_n 0 dX3_passNight_8 rfl rfl ?_
      refine y_getI fX3_15 dX3_passNight_9 hP.1 rfl ?_
      refine z_icmp_ge 61 dX3_passNight_12 (by decide) (fun c_2 => ?_) (fun c_2 => ?_)
      · exact y_vret dX3_passNight_61 rfl hr.symm
      · exact (dz rfl hDm (by omega) (by omega) c_2).elim
    | succ n ih7 =>
      intro k lf mm hk hDm hl hr
      refine z_iload_n 3 dX3_passNight_7 rfl rfl ?_
      refine z_aload_n 0 dX3_passNight_8 rfl rfl ?_
      refine y_getI fX3_15 dX3_passNight_9 hP.1 rfl ?_
      refine z_icmp_ge 61 dX3_passNight_12 (by decide) (fun c_3 => ?_) (fun c_3 => ?_)
      · exact (ds rfl hDm (by omega) (by omega) c_3).elim
      · refine z_iload_n 2 dX3_passNight_15 rfl rfl ?_
        refine z_iload_n 3 dX3_passNight_16 rfl rfl ?_
        refine y_Si [_, _] _ kX3_138 c_has dX3_passNight_17 rfl rfl (Nat.le_of_ble_eq_true rfl) (Nat.le_of_ble_eq_true rfl) ⟨Nat.zero_le _, Nat.zero_le _⟩ ?_
        refine z_if_eq 55 dX3_passNight_20 (by decide) (fun c_4 => ?_) (fun c_4 => ?_)
        · obtain ⟨v_5, e_5⟩ : ∃ y : Int32, y = (Int32.ofNat k) + 1 := ⟨_, rfl⟩
          refine z_iinc (lv' := [(3, .int v_5), (0, .ref p), (1, .int r), (2, .int lf)]) 3 v_5 dX3_passNight_55 rfl (by rw [e_5]; rfl) (Nat.le_of_ble_eq_true rfl) rfl ?_
          refine z_goto 7 dX3_passNight_58 (by decide) ?_
          obtain rfl : v_5 = Int32.ofNat (k + 1) := e_5.trans (nat_succ k)
          refine z_sub [1,2,3,0] rfl ?_
          exact ih7 (k + 1) _ _ (by omega) (by simpa [aput_ne, mset] using hDm) hl (hr.trans (congrArg (sfold _ n (k + 1)) (by subst_vars; simp [spn, smax, c_3, c_4])))
        · refine z_aload_n 0 dX3_passNight_23 rfl rfl ?_
          refine z_bipush 10 dX3_passNight_24 (by decide) ?_
          refine y_Vi [_] _ kX3_188 (c_draw hP) rfl hP.1 dX3_passNight_26 rfl rfl (Nat.le_of_ble_eq_true rfl) (Nat.le_of_ble_eq_true rfl) ⟨Nat.zero_le _, Nat.zero_le _⟩ ?_
          refine z_iload_n 1 dX3_passNight_29 rfl rfl ?_
          refine z_icmp_ge 55 dX3_passNight_30 (by decide) (fun c_6 => ?_) (fun c_6 => ?_)
          · obtain ⟨v_7, e_7⟩ : ∃ y : Int32, y = (Int32.ofNat k) + 1 := ⟨_, rfl⟩
            refine z_iinc (lv' := [(3, .int v_7), (0, .ref p), (1, .int r), (2, .int lf)]) 3 v_7 dX3_passNight_55 rfl (by rw [e_7]; rfl) (Nat.le_of_ble_eq_true rfl) rfl ?_
            refine z_goto 7 dX3_passNight_58 (by decide) ?_
            obtain rfl : v_7 = Int32.ofNat (k + 1) := e_7.trans (nat_succ k)
            refine z_sub [1,2,3,0] rfl ?_
            exact ih7 (k + 1) _ _ (by omega) (by simpa [aput_ne, mset] using hDm) hl (hr.trans (congrArg (sfold _ n (k + 1)) (by subst_vars; simp [spn, smax, c_3, c_4, c_6])))
          · refine z_aload_n 0 dX3_passNight_33 rfl rfl ?_
            refine y_getR fX3_40 dX3_passNight_34 hP.1 rfl ?_
            refine z_iload_n 3 dX3_passNight_37 rfl rfl ?_
            refine z_iconst 0 dX3_passNight_38 (by decide) ?_
            refine z_aload_n 0 dX3_passNight_39 rfl rfl ?_
            refine y_getR fX3_40 dX3_passNight_40 hP.1 rfl ?_
            refine z_iload_n 3 dX3_passNight_43 rfl rfl ?_
            refine y_Si [_, _] _ kX3_118 (c_at hP.2.2.2.2.2.2.1 (by decide)) dX3_passNight_44 rfl rfl (Nat.le_of_ble_eq_true rfl) (Nat.le_of_ble_eq_true rfl) ⟨Nat.zero_le _, Nat.zero_le _⟩ ?_
            refine z_iconst 1 dX3_passNight_47 (by decide) ?_
            refine z_isub dX3_passNight_48 ?_
            refine z_mmax lX3_170 zh_max zh_mi zh_maxc dX3_passNight_49 (Nat.le_of_ble_eq_true rfl) (Nat.le_of_ble_eq_true rfl) (Nat.zero_le _) (Nat.zero_le _) ?_
            refine y_S0 [_, _, _] _ kX3_110 (c_put hP.2.2.2.2.2.2.1 (by decide)) dX3_passNight_52 rfl rfl (Nat.le_of_ble_eq_true rfl) (Nat.le_of_ble_eq_true rfl) ⟨Nat.zero_le _, Nat.zero_le _⟩ ?_
            obtain ⟨v_8, e_8⟩ : ∃ y : Int32, y = (Int32.ofNat k) + 1 := ⟨_, rfl⟩
            refine z_iinc (lv' := [(3, .int v_8), (0, .ref p), (1, .int r), (2, .int lf)]) 3 v_8 dX3_passNight_55 rfl (by rw [e_8]; rfl) (Nat.le_of_ble_eq_true rfl) rfl ?_
            refine z_goto 7 dX3_passNight_58 (by decide) ?_
            obtain rfl : v_8 = Int32.ofNat (k + 1) := e_8.trans (nat_succ k)
            refine z_sub [1,2,3,0] rfl ?_
            exact ih7 (k + 1) _ _ (by omega) (by simpa [aput_ne, mset] using hDm) hl (hr.trans (congrArg (sfold _ n (k + 1)) (by subst_vars; simp [spn, smax, c_3, c_4, c_6])))
  refine z_sub [2,3,1,0] rfl ?_
  exact loop7 D 0 _ _ (by omega) hD e_1 rfl
set_option maxRecDepth 100000 in
set_option maxHeartbeats 4000000 in
theorem c_layDown {m : zmem} {p : Nat} {d i : Int32} (hP : isPar p) : Ei MX3_layDown 1 [.ref p, .int d, .int i] m (slayw m p i) (slay m p d i) := by
  refine Ei.of (by decide) (Nat.le_of_ble_eq_true rfl) ?_
  show Z _ 0 [(0, .ref p), (1, .int d), (2, .int i)] _ _ _ _
  refine z_aload_n 0 dX3_layDown_0 rfl rfl ?_
  refine y_getR fX3_24 dX3_layDown_1 hP.1 rfl ?_
  refine z_iload_n 2 dX3_layDown_4 rfl rfl ?_
  refine y_Si [_, _] _ kX3_118 (c_at hP.2.1 (by decide)) dX3_layDown_5 rfl rfl (Nat.le_of_ble_eq_true rfl) (Nat.le_of_ble_eq_true rfl) ⟨Nat.zero_le _, Nat.zero_le _⟩ ?_
  refine z_iconst 4 dX3_layDown_8 (by decide) ?_
  refine z_iadd dX3_layDown_9 ?_
  refine z_topi (fun v_1 e_1 => ?_)
  refine z_istore_n (lv' := [(3, .int v_1), (0, .ref p), (1, .int d), (2, .int i)]) dX3_layDown_10 rfl (Nat.le_of_ble_eq_true rfl) rfl ?_
  refine z_aload_n 1 dX3_layDown_11 rfl rfl ?_
  refine y_getR fX3_24 dX3_layDown_12 hP.1 rfl ?_
  refine z_iload_n 3 dX3_layDown_15 rfl rfl ?_
  refine z_iconst 0 dX3_layDown_16 (by decide) ?_
  refine y_S0 [_, _, _] _ kX3_110 (c_put hP.2.1 (by decide)) dX3_layDown_17 rfl rfl (Nat.le_of_ble_eq_true rfl) (Nat.le_of_ble_eq_true rfl) ⟨Nat.zero_le _, Nat.zero_le _⟩ ?_
  refine z_aload_n 1 dX3_layDown_20 rfl rfl ?_
  refine y_getR fX3_43 dX3_layDown_21 hP.1 rfl ?_
  refine z_iload_n 2 dX3_layDown_24 rfl rfl ?_
  refine z_iload_n 3 dX3_layDown_25 rfl rfl ?_
  refine y_S0 [_, _, _] _ kX3_110 (c_put hP.2.2.2.2.2.2.2.1 (by decide)) dX3_layDown_26 rfl rfl (Nat.le_of_ble_eq_true rfl) (Nat.le_of_ble_eq_true rfl) ⟨Nat.zero_le _, Nat.zero_le _⟩ ?_
  refine z_aload_n 1 dX3_layDown_29 rfl rfl ?_
  refine z_dup dX3_layDown_30 rfl ?_
  refine y_getI fX3_55 dX3_layDown_31 hP.1 rfl ?_
  refine z_iload_n 0 dX3_layDown_34 rfl rfl ?_
  refine z_iadd dX3_layDown_35 ?_
  refine y_putI fX3_55 dX3_layDown_36 hP.1 rfl ?_
  refine z_iload_n 0 dX3_layDown_39 rfl rfl ?_
  exact y_iret dX3_layDown_40 rfl e_1 (by rw [e_1]; rfl)
set_option maxRecDepth 100000 in
set_option maxHeartbeats 4000000 in
theorem c_behind {m : zmem} {p D Y : Nat} {days heat : Int32} (hP : isPar p) (hD : m p 1 = Int32.ofNat D) (hD7 : D ≤ 7) (hY : m p 0 = Int32.ofNat Y) (hY8 : Y ≤ 8) : Ei MX3_softBehind 2 [.ref p, .int days, .int heat] m (sbehind m p D Y days heat) (m) := by
  refine Ei.of (by decide) (Nat.le_of_ble_eq_true rfl) ?_
  show Z _ 0 [(0, .ref p), (1, .int days), (2, .int heat)] _ _ _ _
  refine z_aload_n 0 dX3_softBehind_0 rfl rfl ?_
  refine y_Vi [] _ kX3_132 (c_taken hP hD hD7) rfl hP.1 dX3_softBehind_1 rfl rfl (Nat.le_of_ble_eq_true rfl) (Nat.le_of_ble_eq_true rfl) ⟨Nat.zero_le _, Nat.zero_le _⟩ ?_
  refine z_topi (fun v_1 e_1 => ?_)
  refine z_istore_n (lv' := [(3, .int v_1), (0, .ref p), (1, .int days), (2, .int heat)]) dX3_softBehind_4 rfl (Nat.le_of_ble_eq_true rfl) rfl ?_
  refine z_iconst 0 dX3_softBehind_5 (by decide) ?_
  refine z_istore (lv' := [(4, .int 0), (3, .int v_1), (0, .ref p), (1, .int days), (2, .int heat)]) dX3_softBehind_6 (Nat.le_of_ble_eq_true rfl) rfl ?_
  refine z_iconst 0 dX3_softBehind_8 (by decide) ?_
  refine z_istore (lv' := [(5, .int 0), (4, .int 0), (3, .int v_1), (0, .ref p), (1, .int days), (2, .int heat)]) dX3_softBehind_9 (Nat.le_of_ble_eq_true rfl) rfl ?_
  have loop11 : ∀ (n : Nat) (k : Nat) (tk : Int32) (s : Int32), k + n = Y → tk = staken m p D → sbehind m p D Y days heat = sfold (fun k s => if ¬ shas (staken m p D) (Int32.ofNat k) = 0 then s else if days * sthaw m p (Int32.ofNat k) heat < aat 8 (m (p + 1)) (Int32.ofNat k) then s else s + 1) n k s → Z (zMB (Qi (sbehind m p D Y days heat) (m)) 2 MX3_softBehind) 11 [(0, .ref p), (1, .int days), (2, .int heat), (3, .int tk), (4, .int s), (5, .int (Int32.ofNat k))] [] (hp m) 0 0 := by
    intro n
    induction n with
    | zero =>
      intro k tk s hk ht hr
      refine z_iload 5 dX3_softBehind_11 rfl ?_
      refine z_aload_n 0 dX3_softBehind_13 rfl rfl ?_
      refine y_getI fX3_9 dX3_softBehind_14 hP.1 rfl ?_
      refine z_icmp_ge 59 dX3_softBehind_17 (by decide) (fun c_2 => ?_) (fun c_2 => ?_)
      · refine z_iload 4 dX3_softBehind_59 rfl ?_
        exact y_iret dX3_softBehind_61 rfl hr.symm rfl
      · exact (dz rfl hY (by omega) (by omega) c_2).elim
    | succ n ih11 =>
      intro k tk s hk ht hr
      refine z_iload 5 dX3_softBehind_11 rfl ?_
      refine z_aload_n 0 dX3_softBehind_13 rfl rfl ?_
      refine y_getI fX3_9 dX3_softBehind_14 hP.1 rfl ?_
      refine z_icmp_ge 59 dX3_softBehind_17 (by decide) (fun c_3 => ?_) (fun c_3 => ?_)
      · exact (ds rfl hY (by omega) (by omega) c_3).elim
      · refine z_iload_n 3 dX3_softBehind_20 rfl rfl ?_
        refine z_iload 5 dX3_softBehind_21 rfl ?_
        refine y_Si [_, _] _ kX3_138 c_has dX3_softBehind_23 rfl rfl (Nat.le_of_ble_eq_true rfl) (Nat.le_of_ble_eq_true rfl) ⟨Nat.zero_le _, Nat.zero_le _⟩ ?_
        refine z_if_ne 53 dX3_softBehind_26 (by decide) (fun c_4 => ?_) (fun c_4 => ?_)
        · obtain ⟨v_5, e_5⟩ : ∃ y : Int32, y = (Int32.ofNat k) + 1 := ⟨_, rfl⟩
          refine z_iinc (lv' := [(5, .int v_5), (0, .ref p), (1, .int days), (2, .int heat), (3, .int tk), (4, .int s)]) 5 v_5 dX3_softBehind_53 rfl (by rw [e_5]; rfl) (Nat.le_of_ble_eq_true rfl) rfl ?_
          refine z_goto 11 dX3_softBehind_56 (by decide) ?_
          obtain rfl : v_5 = Int32.ofNat (k + 1) := e_5.trans (nat_succ k)
          refine z_sub [1,2,3,4,5,0] rfl ?_
          exact ih11 (k + 1) _ _ (by omega) ht (hr.trans (congrArg (sfold _ n (k + 1)) (by subst_vars; simp [c_3, c_4])))
        · refine z_aload_n 0 dX3_softBehind_29 rfl rfl ?_
          refine y_getR fX3_24 dX3_softBehind_30 hP.1 rfl ?_
          refine z_iload 5 dX3_softBehind_33 rfl ?_
          refine y_Si [_, _] _ kX3_118 (c_at hP.2.1 (by decide)) dX3_softBehind_35 rfl rfl (Nat.le_of_ble_eq_true rfl) (Nat.le_of_ble_eq_true rfl) ⟨Nat.zero_le _, Nat.zero_le _⟩ ?_
          refine z_iload_n 1 dX3_softBehind_38 rfl rfl ?_
          refine z_aload_n 0 dX3_softBehind_39 rfl rfl ?_
          refine z_iload 5 dX3_softBehind_40 rfl ?_
          refine z_iload_n 2 dX3_softBehind_42 rfl rfl ?_
          refine y_Vi [_, _] _ kX3_175 (c_thaw hP) rfl hP.1 dX3_softBehind_43 rfl rfl (Nat.le_of_ble_eq_true rfl) (Nat.le_of_ble_eq_true rfl) ⟨Nat.zero_le _, Nat.zero_le _⟩ ?_
          refine z_imul dX3_softBehind_46 ?_
          refine z_icmp_gt 53 dX3_softBehind_47 (by decide) (fun c_6 => ?_) (fun c_6 => ?_)
          · obtain ⟨v_7, e_7⟩ : ∃ y : Int32, y = (Int32.ofNat k) + 1 := ⟨_, rfl⟩
            refine z_iinc (lv' := [(5, .int v_7), (0, .ref p), (1, .int days), (2, .int heat), (3, .int tk), (4, .int s)]) 5 v_7 dX3_softBehind_53 rfl (by rw [e_7]; rfl) (Nat.le_of_ble_eq_true rfl) rfl ?_
            refine z_goto 11 dX3_softBehind_56 (by decide) ?_
            obtain rfl : v_7 = Int32.ofNat (k + 1) := e_7.trans (nat_succ k)
            refine z_sub [1,2,3,4,5,0] rfl ?_
            exact ih11 (k + 1) _ _ (by omega) ht (hr.trans (congrArg (sfold _ n (k + 1)) (by subst_vars; simp [c_3, c_4, c_6])))
          · obtain ⟨v_8, e_8⟩ : ∃ y : Int32, y = s + 1 := ⟨_, rfl⟩
            refine z_iinc (lv' := [(4, .int v_8), (0, .ref p), (1, .int days), (2, .int heat), (3, .int tk), (5, .int (Int32.ofNat k))]) 4 v_8 dX3_softBehind_50 rfl (by rw [e_8]; rfl) (Nat.le_of_ble_eq_true rfl) rfl ?_
            obtain ⟨v_9, e_9⟩ : ∃ y : Int32, y = (Int32.ofNat k) + 1 := ⟨_, rfl⟩
            refine z_iinc (lv' := [(5, .int v_9), (4, .int v_8), (0, .ref p), (1, .int days), (2, .int heat), (3, .int tk)]) 5 v_9 dX3_softBehind_53 rfl (by rw [e_9]; rfl) (Nat.le_of_ble_eq_true rfl) rfl ?_
            refine z_goto 11 dX3_softBehind_56 (by decide) ?_
            obtain rfl : v_9 = Int32.ofNat (k + 1) := e_9.trans (nat_succ k)
            refine z_sub [2,3,4,5,1,0] rfl ?_
            exact ih11 (k + 1) _ _ (by omega) ht (hr.trans (congrArg (sfold _ n (k + 1)) (by subst_vars; simp [c_3, c_4, c_6])))
  refine z_sub [3,4,5,2,1,0] rfl ?_
  exact loop11 Y 0 _ _ (by omega) e_1 rfl
set_option maxRecDepth 100000 in
set_option maxHeartbeats 4000000 in
theorem c_until {m : zmem} {p D Y : Nat} {w heat : Int32} (hP : isPar p) (hD : m p 1 = Int32.ofNat D) (hD7 : D ≤ 7) (hY : m p 0 = Int32.ofNat Y) (hY8 : Y ≤ 8) : Ei MX3_daysUntilSoft 3 [.ref p, .int w, .int heat] m (suntil m p D Y w heat) (m) := by
  refine Ei.of (by decide) (Nat.le_of_ble_eq_true rfl) ?_
  show Z _ 0 [(0, .ref p), (1, .int w), (2, .int heat)] _ _ _ _
  refine z_iconst 0 dX3_daysUntilSoft_0 (by decide) ?_
  refine z_istore_n (lv' := [(3, .int 0), (0, .ref p), (1, .int w), (2, .int heat)]) dX3_daysUntilSoft_1 rfl (Nat.le_of_ble_eq_true rfl) rfl ?_
  have loop2 : ∀ (n : Nat) (k : Nat), k + n = 1000 → suntil m p D Y w heat = sfind (fun k => decide (¬ sbehind m p D Y (Int32.ofNat k) heat < w)) n k → Z (zMB (Qi (suntil m p D Y w heat) (m)) 3 MX3_daysUntilSoft) 2 [(0, .ref p), (1, .int w), (2, .int heat), (3, .int (Int32.ofNat k))] [] (hp m) 0 0 := by
    intro n
    induction n with
    | zero =>
      intro k hk hr
      refine z_iload_n 3 dX3_daysUntilSoft_2 rfl rfl ?_
      refine z_sipush 999 dX3_daysUntilSoft_3 (by decide) ?_
      refine z_icmp_gt 27 dX3_daysUntilSoft_6 (by decide) (fun c_1 => ?_) (fun c_1 => ?_)
      · refine z_iconst (-1) dX3_daysUntilSoft_27 (by decide) ?_
        exact y_iret dX3_daysUntilSoft_28 rfl (by first | exact hr.symm | (rw [hr]; simp [sfind, c_1])) rfl
      · exact (dzg (b := 999) (N := 999) rfl (by omega) (by omega) c_1).elim
    | succ n ih2 =>
      intro k hk hr
      refine z_iload_n 3 dX3_daysUntilSoft_2 rfl rfl ?_
      refine z_sipush 999 dX3_daysUntilSoft_3 (by decide) ?_
      refine z_icmp_gt 27 dX3_daysUntilSoft_6 (by decide) (fun c_2 => ?_) (fun c_2 => ?_)
      · exact (dsg (b := 999) (N := 999) rfl (by omega) (by omega) c_2).elim
      · refine z_aload_n 0 dX3_daysUntilSoft_9 rfl rfl ?_
        refine z_iload_n 3 dX3_daysUntilSoft_10 rfl rfl ?_
        refine z_iload_n 2 dX3_daysUntilSoft_11 rfl rfl ?_
        refine y_Vi [_, _] _ kX3_191 (c_behind hP hD hD7 hY hY8) rfl hP.1 dX3_daysUntilSoft_12 rfl rfl (Nat.le_of_ble_eq_true rfl) (Nat.le_of_ble_eq_true rfl) ⟨Nat.zero_le _, Nat.zero_le _⟩ ?_
        refine z_iload_n 1 dX3_daysUntilSoft_15 rfl rfl ?_
        refine z_icmp_lt 21 dX3_daysUntilSoft_16 (by decide) (fun c_3 => ?_) (fun c_3 => ?_)
        · obtain ⟨v_4, e_4⟩ : ∃ y : Int32, y = (Int32.ofNat k) + 1 := ⟨_, rfl⟩
          refine z_iinc (lv' := [(3, .int v_4), (0, .ref p), (1, .int w), (2, .int heat)]) 3 v_4 dX3_daysUntilSoft_21 rfl (by rw [e_4]; rfl) (Nat.le_of_ble_eq_true rfl) rfl ?_
          refine z_goto 2 dX3_daysUntilSoft_24 (by decide) ?_
          obtain rfl : v_4 = Int32.ofNat (k + 1) := e_4.trans (nat_succ k)
          refine z_sub [1,2,3,0] rfl ?_
          exact ih2 (k + 1)  (by omega) (hr.trans (by simp [sfind, c_2, c_3]))
        · refine z_iload_n 3 dX3_daysUntilSoft_19 rfl rfl ?_
          exact y_iret dX3_daysUntilSoft_20 rfl (by first | exact hr.symm | (rw [hr]; simp [sfind, c_2, c_3])) rfl
  refine z_sub [1,2,3,0] rfl ?_
  exact loop2 1000 0  (by omega) rfl
set_option maxRecDepth 100000 in
set_option maxHeartbeats 4000000 in
theorem c_settle {m : zmem} {p : Nat} (hP : isPar p) : E0 MX3_settle 2 [.ref p] m (ssettle m p) := by
  refine E0.of (by decide) (Nat.le_of_ble_eq_true rfl) ?_
  show Z _ 0 [(0, .ref p)] _ _ _ _
  refine z_aload_n 0 dX3_settle_0 rfl rfl ?_
  refine y_getI fX3_18 dX3_settle_1 hP.1 rfl ?_
  refine z_if_ne 18 dX3_settle_4 (by decide) (fun c_1 => ?_) (fun c_1 => ?_)
  · refine z_iconst 0 dX3_settle_18 (by decide) ?_
    refine z_istore_n (lv' := [(1, .int 0), (0, .ref p)]) dX3_settle_19 rfl (Nat.le_of_ble_eq_true rfl) rfl ?_
    have loop20 : ∀ (n : Nat) (k : Nat) (mm : zmem), k + n = 7 → ssettle m p = ssettle0 p (sfold (sset p) n k mm) → Z (zMB (Q0 (ssettle m p)) 2 MX3_settle) 20 [(0, .ref p), (1, .int (Int32.ofNat k))] [] (hp mm) 0 0 := by
      intro n
      induction n with
      | zero =>
        intro k mm hk hr
        refine z_iload_n 1 dX3_settle_20 rfl rfl ?_
        refine z_bipush 7 dX3_settle_21 (by decide) ?_
        refine z_icmp_ge 84 dX3_settle_23 (by decide) (fun c_2 => ?_) (fun c_2 => ?_)
        · refine z_aload_n 0 dX3_settle_84 rfl rfl ?_
          refine z_iconst 0 dX3_settle_85 (by decide) ?_
          refine y_putI fX3_52 dX3_settle_86 hP.1 rfl ?_
          refine z_aload_n 0 dX3_settle_89 rfl rfl ?_
          refine z_iconst 0 dX3_settle_90 (by decide) ?_
          refine y_putI fX3_55 dX3_settle_91 hP.1 rfl ?_
          exact y_vret dX3_settle_94 rfl (by rw [hr]; rfl)
        · exact (dz rfl (b := 7) (N := 7) rfl (by omega) (by omega) c_2).elim
      | succ n ih20 =>
        intro k mm hk hr
        refine z_iload_n 1 dX3_settle_20 rfl rfl ?_
        refine z_bipush 7 dX3_settle_21 (by decide) ?_
        refine z_icmp_ge 84 dX3_settle_23 (by decide) (fun c_3 => ?_) (fun c_3 => ?_)
        · exact (ds rfl (b := 7) (N := 7) rfl (by omega) (by omega) c_3).elim
        · refine z_aload_n 0 dX3_settle_26 rfl rfl ?_
          refine y_getR fX3_37 dX3_settle_27 hP.1 rfl ?_
          refine z_iload_n 1 dX3_settle_30 rfl rfl ?_
          refine z_iconst 0 dX3_settle_31 (by decide) ?_
          refine y_S0 [_, _, _] _ kX3_110 (c_put hP.2.2.2.2.2.1 (by decide)) dX3_settle_32 rfl rfl (Nat.le_of_ble_eq_true rfl) (Nat.le_of_ble_eq_true rfl) ⟨Nat.zero_le _, Nat.zero_le _⟩ ?_
          refine z_aload_n 0 dX3_settle_35 rfl rfl ?_
          refine y_getR fX3_40 dX3_settle_36 hP.1 rfl ?_
          refine z_iload_n 1 dX3_settle_39 rfl rfl ?_
          refine z_bipush 9 dX3_settle_40 (by decide) ?_
          refine y_S0 [_, _, _] _ kX3_110 (c_put hP.2.2.2.2.2.2.1 (by decide)) dX3_settle_42 rfl rfl (Nat.le_of_ble_eq_true rfl) (Nat.le_of_ble_eq_true rfl) ⟨Nat.zero_le _, Nat.zero_le _⟩ ?_
          refine z_aload_n 0 dX3_settle_45 rfl rfl ?_
          refine y_getR fX3_43 dX3_settle_46 hP.1 rfl ?_
          refine z_iload_n 1 dX3_settle_49 rfl rfl ?_
          refine z_iconst (-1) dX3_settle_50 (by decide) ?_
          refine y_S0 [_, _, _] _ kX3_110 (c_put hP.2.2.2.2.2.2.2.1 (by decide)) dX3_settle_51 rfl rfl (Nat.le_of_ble_eq_true rfl) (Nat.le_of_ble_eq_true rfl) ⟨Nat.zero_le _, Nat.zero_le _⟩ ?_
          refine z_aload_n 0 dX3_settle_54 rfl rfl ?_
          refine y_getR fX3_46 dX3_settle_55 hP.1 rfl ?_
          refine z_iload_n 1 dX3_settle_58 rfl rfl ?_
          refine z_iload_n 1 dX3_settle_59 rfl rfl ?_
          refine y_S0 [_, _, _] _ kX3_110 (c_put hP.2.2.2.2.2.2.2.2.1 (by decide)) dX3_settle_60 rfl rfl (Nat.le_of_ble_eq_true rfl) (Nat.le_of_ble_eq_true rfl) ⟨Nat.zero_le _, Nat.zero_le _⟩ ?_
          refine z_aload_n 0 dX3_settle_63 rfl rfl ?_
          refine y_getR fX3_49 dX3_settle_64 hP.1 rfl ?_
          refine z_iload_n 1 dX3_settle_67 rfl rfl ?_
          refine z_aload_n 0 dX3_settle_68 rfl rfl ?_
          refine y_getI fX3_15 dX3_settle_69 hP.1 rfl ?_
          refine y_Si [_] _ kX3_114 c_allBelow dX3_settle_72 rfl rfl (Nat.le_of_ble_eq_true rfl) (Nat.le_of_ble_eq_true rfl) ⟨Nat.zero_le _, Nat.zero_le _⟩ ?_
          refine y_S0 [_, _, _] _ kX3_110 (c_put hP.2.2.2.2.2.2.2.2.2 (by decide)) dX3_settle_75 rfl rfl (Nat.le_of_ble_eq_true rfl) (Nat.le_of_ble_eq_true rfl) ⟨Nat.zero_le _, Nat.zero_le _⟩ ?_
          obtain ⟨v_4, e_4⟩ : ∃ y : Int32, y = (Int32.ofNat k) + 1 := ⟨_, rfl⟩
          refine z_iinc (lv' := [(1, .int v_4), (0, .ref p)]) 1 v_4 dX3_settle_78 rfl (by rw [e_4]; rfl) (Nat.le_of_ble_eq_true rfl) rfl ?_
          refine z_goto 20 dX3_settle_81 (by decide) ?_
          obtain rfl : v_4 = Int32.ofNat (k + 1) := e_4.trans (nat_succ k)
          refine z_sub [1,0] rfl ?_
          exact ih20 (k + 1) _ (by omega) (hr.trans rfl)
    refine z_sub [1,0] rfl ?_
    exact loop20 7 0 _ (by omega) (by simp [ssettle, ssun, c_1])
  · refine z_aload_n 0 dX3_settle_7 rfl rfl ?_
    refine z_bipush 6 dX3_settle_8 (by decide) ?_
    refine y_putI fX3_18 dX3_settle_10 hP.1 rfl ?_
    refine z_aload_n 0 dX3_settle_13 rfl rfl ?_
    refine z_iconst 2 dX3_settle_14 (by decide) ?_
    refine y_putI fX3_21 dX3_settle_15 hP.1 rfl ?_
    refine z_iconst 0 dX3_settle_18 (by decide) ?_
    refine z_istore_n (lv' := [(1, .int 0), (0, .ref p)]) dX3_settle_19 rfl (Nat.le_of_ble_eq_true rfl) rfl ?_
    have loop20 : ∀ (n : Nat) (k : Nat) (mm : zmem), k + n = 7 → ssettle m p = ssettle0 p (sfold (sset p) n k mm) → Z (zMB (Q0 (ssettle m p)) 2 MX3_settle) 20 [(0, .ref p), (1, .int (Int32.ofNat k))] [] (hp mm) 0 0 := by
      intro n
      induction n with
      | zero =>
        intro k mm hk hr
        refine z_iload_n 1 dX3_settle_20 rfl rfl ?_
        refine z_bipush 7 dX3_settle_21 (by decide) ?_
        refine z_icmp_ge 84 dX3_settle_23 (by decide) (fun c_5 => ?_) (fun c_5 => ?_)
        · refine z_aload_n 0 dX3_settle_84 rfl rfl ?_
          refine z_iconst 0 dX3_settle_85 (by decide) ?_
          refine y_putI fX3_52 dX3_settle_86 hP.1 rfl ?_
          refine z_aload_n 0 dX3_settle_89 rfl rfl ?_
          refine z_iconst 0 dX3_settle_90 (by decide) ?_
          refine y_putI fX3_55 dX3_settle_91 hP.1 rfl ?_
          exact y_vret dX3_settle_94 rfl (by rw [hr]; rfl)
        · exact (dz rfl (b := 7) (N := 7) rfl (by omega) (by omega) c_5).elim
      | succ n ih20 =>
        intro k mm hk hr
        refine z_iload_n 1 dX3_settle_20 rfl rfl ?_
        refine z_bipush 7 dX3_settle_21 (by decide) ?_
        refine z_icmp_ge 84 dX3_settle_23 (by decide) (fun c_6 => ?_) (fun c_6 => ?_)
        · exact (ds rfl (b := 7) (N := 7) rfl (by omega) (by omega) c_6).elim
        · refine z_aload_n 0 dX3_settle_26 rfl rfl ?_
          refine y_getR fX3_37 dX3_settle_27 hP.1 rfl ?_
          refine z_iload_n 1 dX3_settle_30 rfl rfl ?_
          refine z_iconst 0 dX3_settle_31 (by decide) ?_
          refine y_S0 [_, _, _] _ kX3_110 (c_put hP.2.2.2.2.2.1 (by decide)) dX3_settle_32 rfl rfl (Nat.le_of_ble_eq_true rfl) (Nat.le_of_ble_eq_true rfl) ⟨Nat.zero_le _, Nat.zero_le _⟩ ?_
          refine z_aload_n 0 dX3_settle_35 rfl rfl ?_
          refine y_getR fX3_40 dX3_settle_36 hP.1 rfl ?_
          refine z_iload_n 1 dX3_settle_39 rfl rfl ?_
          refine z_bipush 9 dX3_settle_40 (by decide) ?_
          refine y_S0 [_, _, _] _ kX3_110 (c_put hP.2.2.2.2.2.2.1 (by decide)) dX3_settle_42 rfl rfl (Nat.le_of_ble_eq_true rfl) (Nat.le_of_ble_eq_true rfl) ⟨Nat.zero_le _, Nat.zero_le _⟩ ?_
          refine z_aload_n 0 dX3_settle_45 rfl rfl ?_
          refine y_getR fX3_43 dX3_settle_46 hP.1 rfl ?_
          refine z_iload_n 1 dX3_settle_49 rfl rfl ?_
          refine z_iconst (-1) dX3_settle_50 (by decide) ?_
          refine y_S0 [_, _, _] _ kX3_110 (c_put hP.2.2.2.2.2.2.2.1 (by decide)) dX3_settle_51 rfl rfl (Nat.le_of_ble_eq_true rfl) (Nat.le_of_ble_eq_true rfl) ⟨Nat.zero_le _, Nat.zero_le _⟩ ?_
          refine z_aload_n 0 dX3_settle_54 rfl rfl ?_
          refine y_getR fX3_46 dX3_settle_55 hP.1 rfl ?_
          refine z_iload_n 1 dX3_settle_58 rfl rfl ?_
          refine z_iload_n 1 dX3_settle_59 rfl rfl ?_
          refine y_S0 [_, _, _] _ kX3_110 (c_put hP.2.2.2.2.2.2.2.2.1 (by decide)) dX3_settle_60 rfl rfl (Nat.le_of_ble_eq_true rfl) (Nat.le_of_ble_eq_true rfl) ⟨Nat.zero_le _, Nat.zero_le _⟩ ?_
          refine z_aload_n 0 dX3_settle_63 rfl rfl ?_
          refine y_getR fX3_49 dX3_settle_64 hP.1 rfl ?_
          refine z_iload_n 1 dX3_settle_67 rfl rfl ?_
          refine z_aload_n 0 dX3_settle_68 rfl rfl ?_
          refine y_getI fX3_15 dX3_settle_69 hP.1 rfl ?_
          refine y_Si [_] _ kX3_114 c_allBelow dX3_settle_72 rfl rfl (Nat.le_of_ble_eq_true rfl) (Nat.le_of_ble_eq_true rfl) ⟨Nat.zero_le _, Nat.zero_le _⟩ ?_
          refine y_S0 [_, _, _] _ kX3_110 (c_put hP.2.2.2.2.2.2.2.2.2 (by decide)) dX3_settle_75 rfl rfl (Nat.le_of_ble_eq_true rfl) (Nat.le_of_ble_eq_true rfl) ⟨Nat.zero_le _, Nat.zero_le _⟩ ?_
          obtain ⟨v_7, e_7⟩ : ∃ y : Int32, y = (Int32.ofNat k) + 1 := ⟨_, rfl⟩
          refine z_iinc (lv' := [(1, .int v_7), (0, .ref p)]) 1 v_7 dX3_settle_78 rfl (by rw [e_7]; rfl) (Nat.le_of_ble_eq_true rfl) rfl ?_
          refine z_goto 20 dX3_settle_81 (by decide) ?_
          obtain rfl : v_7 = Int32.ofNat (k + 1) := e_7.trans (nat_succ k)
          refine z_sub [1,0] rfl ?_
          exact ih20 (k + 1) _ (by omega) (hr.trans rfl)
    refine z_sub [1,0] rfl ?_
    exact loop20 7 0 _ (by omega) (by simp [ssettle, ssun, c_1])
set_option maxRecDepth 100000 in
set_option maxHeartbeats 4000000 in
theorem c_copyFromP {m : zmem} {o p : Nat} (hO : isPar o) (hP : isPar p) : E0 MX3_copyFrom 2 [.ref p, .ref o] m (scopyP o p m) := by
  refine E0.of (by decide) (Nat.le_of_ble_eq_true rfl) ?_
  show Z _ 0 [(0, .ref p), (1, .ref o)] _ _ _ _
  refine z_aload_n 0 dX3_copyFrom_0 rfl rfl ?_
  refine z_aload_n 1 dX3_copyFrom_1 rfl rfl ?_
  refine y_getI fX3_9 dX3_copyFrom_2 hO.1 rfl ?_
  refine y_putI fX3_9 dX3_copyFrom_5 hP.1 rfl ?_
  refine z_aload_n 0 dX3_copyFrom_8 rfl rfl ?_
  refine z_aload_n 1 dX3_copyFrom_9 rfl rfl ?_
  refine y_getI fX3_15 dX3_copyFrom_10 hO.1 rfl ?_
  refine y_putI fX3_15 dX3_copyFrom_13 hP.1 rfl ?_
  refine z_aload_n 0 dX3_copyFrom_16 rfl rfl ?_
  refine z_aload_n 1 dX3_copyFrom_17 rfl rfl ?_
  refine y_getI fX3_18 dX3_copyFrom_18 hO.1 rfl ?_
  refine y_putI fX3_18 dX3_copyFrom_21 hP.1 rfl ?_
  refine z_aload_n 0 dX3_copyFrom_24 rfl rfl ?_
  refine z_aload_n 1 dX3_copyFrom_25 rfl rfl ?_
  refine y_getI fX3_21 dX3_copyFrom_26 hO.1 rfl ?_
  refine y_putI fX3_21 dX3_copyFrom_29 hP.1 rfl ?_
  refine z_aload_n 1 dX3_copyFrom_32 rfl rfl ?_
  refine y_getR fX3_24 dX3_copyFrom_33 hO.1 rfl ?_
  refine z_aload_n 0 dX3_copyFrom_36 rfl rfl ?_
  refine y_getR fX3_24 dX3_copyFrom_37 hP.1 rfl ?_
  refine y_S0 [_, _] _ kX3_61 (c_copyRow hO.2.1 (by decide) hP.2.1 (by decide)) dX3_copyFrom_40 rfl rfl (Nat.le_of_ble_eq_true rfl) (Nat.le_of_ble_eq_true rfl) ⟨Nat.zero_le _, Nat.zero_le _⟩ ?_
  refine z_aload_n 1 dX3_copyFrom_43 rfl rfl ?_
  refine y_getR fX3_28 dX3_copyFrom_44 hO.1 rfl ?_
  refine z_aload_n 0 dX3_copyFrom_47 rfl rfl ?_
  refine y_getR fX3_28 dX3_copyFrom_48 hP.1 rfl ?_
  refine y_S0 [_, _] _ kX3_61 (c_copyRow hO.2.2.1 (by decide) hP.2.2.1 (by decide)) dX3_copyFrom_51 rfl rfl (Nat.le_of_ble_eq_true rfl) (Nat.le_of_ble_eq_true rfl) ⟨Nat.zero_le _, Nat.zero_le _⟩ ?_
  refine z_aload_n 1 dX3_copyFrom_54 rfl rfl ?_
  refine y_getR fX3_31 dX3_copyFrom_55 hO.1 rfl ?_
  refine z_aload_n 0 dX3_copyFrom_58 rfl rfl ?_
  refine y_getR fX3_31 dX3_copyFrom_59 hP.1 rfl ?_
  refine y_S0 [_, _] _ kX3_61 (c_copyRow hO.2.2.2.1 (by decide) hP.2.2.2.1 (by decide)) dX3_copyFrom_62 rfl rfl (Nat.le_of_ble_eq_true rfl) (Nat.le_of_ble_eq_true rfl) ⟨Nat.zero_le _, Nat.zero_le _⟩ ?_
  refine z_aload_n 1 dX3_copyFrom_65 rfl rfl ?_
  refine y_getR fX3_34 dX3_copyFrom_66 hO.1 rfl ?_
  refine z_aload_n 0 dX3_copyFrom_69 rfl rfl ?_
  refine y_getR fX3_34 dX3_copyFrom_70 hP.1 rfl ?_
  refine y_S0 [_, _] _ kX3_61 (c_copyRow hO.2.2.2.2.1 (by decide) hP.2.2.2.2.1 (by decide)) dX3_copyFrom_73 rfl rfl (Nat.le_of_ble_eq_true rfl) (Nat.le_of_ble_eq_true rfl) ⟨Nat.zero_le _, Nat.zero_le _⟩ ?_
  refine z_aload_n 1 dX3_copyFrom_76 rfl rfl ?_
  refine y_getR fX3_37 dX3_copyFrom_77 hO.1 rfl ?_
  refine z_aload_n 0 dX3_copyFrom_80 rfl rfl ?_
  refine y_getR fX3_37 dX3_copyFrom_81 hP.1 rfl ?_
  refine y_S0 [_, _] _ kX3_61 (c_copyRow hO.2.2.2.2.2.1 (by decide) hP.2.2.2.2.2.1 (by decide)) dX3_copyFrom_84 rfl rfl (Nat.le_of_ble_eq_true rfl) (Nat.le_of_ble_eq_true rfl) ⟨Nat.zero_le _, Nat.zero_le _⟩ ?_
  refine z_aload_n 1 dX3_copyFrom_87 rfl rfl ?_
  refine y_getR fX3_40 dX3_copyFrom_88 hO.1 rfl ?_
  refine z_aload_n 0 dX3_copyFrom_91 rfl rfl ?_
  refine y_getR fX3_40 dX3_copyFrom_92 hP.1 rfl ?_
  refine y_S0 [_, _] _ kX3_61 (c_copyRow hO.2.2.2.2.2.2.1 (by decide) hP.2.2.2.2.2.2.1 (by decide)) dX3_copyFrom_95 rfl rfl (Nat.le_of_ble_eq_true rfl) (Nat.le_of_ble_eq_true rfl) ⟨Nat.zero_le _, Nat.zero_le _⟩ ?_
  refine z_aload_n 1 dX3_copyFrom_98 rfl rfl ?_
  refine y_getR fX3_43 dX3_copyFrom_99 hO.1 rfl ?_
  refine z_aload_n 0 dX3_copyFrom_102 rfl rfl ?_
  refine y_getR fX3_43 dX3_copyFrom_103 hP.1 rfl ?_
  refine y_S0 [_, _] _ kX3_61 (c_copyRow hO.2.2.2.2.2.2.2.1 (by decide) hP.2.2.2.2.2.2.2.1 (by decide)) dX3_copyFrom_106 rfl rfl (Nat.le_of_ble_eq_true rfl) (Nat.le_of_ble_eq_true rfl) ⟨Nat.zero_le _, Nat.zero_le _⟩ ?_
  refine z_aload_n 1 dX3_copyFrom_109 rfl rfl ?_
  refine y_getR fX3_46 dX3_copyFrom_110 hO.1 rfl ?_
  refine z_aload_n 0 dX3_copyFrom_113 rfl rfl ?_
  refine y_getR fX3_46 dX3_copyFrom_114 hP.1 rfl ?_
  refine y_S0 [_, _] _ kX3_61 (c_copyRow hO.2.2.2.2.2.2.2.2.1 (by decide) hP.2.2.2.2.2.2.2.2.1 (by decide)) dX3_copyFrom_117 rfl rfl (Nat.le_of_ble_eq_true rfl) (Nat.le_of_ble_eq_true rfl) ⟨Nat.zero_le _, Nat.zero_le _⟩ ?_
  refine z_aload_n 1 dX3_copyFrom_120 rfl rfl ?_
  refine y_getR fX3_49 dX3_copyFrom_121 hO.1 rfl ?_
  refine z_aload_n 0 dX3_copyFrom_124 rfl rfl ?_
  refine y_getR fX3_49 dX3_copyFrom_125 hP.1 rfl ?_
  refine y_S0 [_, _] _ kX3_61 (c_copyRow hO.2.2.2.2.2.2.2.2.2 (by decide) hP.2.2.2.2.2.2.2.2.2 (by decide)) dX3_copyFrom_128 rfl rfl (Nat.le_of_ble_eq_true rfl) (Nat.le_of_ble_eq_true rfl) ⟨Nat.zero_le _, Nat.zero_le _⟩ ?_
  refine z_aload_n 0 dX3_copyFrom_131 rfl rfl ?_
  refine z_aload_n 1 dX3_copyFrom_132 rfl rfl ?_
  refine y_getI fX3_52 dX3_copyFrom_133 hO.1 rfl ?_
  refine y_putI fX3_52 dX3_copyFrom_136 hP.1 rfl ?_
  refine z_aload_n 0 dX3_copyFrom_139 rfl rfl ?_
  refine z_aload_n 1 dX3_copyFrom_140 rfl rfl ?_
  refine y_getI fX3_55 dX3_copyFrom_141 hO.1 rfl ?_
  refine y_putI fX3_55 dX3_copyFrom_144 hP.1 rfl ?_
  refine z_aload_n 0 dX3_copyFrom_147 rfl rfl ?_
  refine z_aload_n 1 dX3_copyFrom_148 rfl rfl ?_
  refine y_getI fX3_58 dX3_copyFrom_149 hO.1 rfl ?_
  refine y_putI fX3_58 dX3_copyFrom_152 hP.1 rfl ?_
  exact y_vret dX3_copyFrom_155 rfl rfl
