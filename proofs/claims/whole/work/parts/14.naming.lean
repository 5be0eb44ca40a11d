/-! names for the coffins -/
def sdown {α : Type} (f : Nat → α → α) : Nat → α → α
  | 0, s => s
  | n + 1, s => sdown f n (f n s)
theorem nat_pred (n : Nat) : Int32.ofNat (n + 1) - 1 = Int32.ofNat n := by
  rw [← nat_succ]
  exact Int32.add_sub_cancel _ _
theorem add_m1 (x : Int32) : x + -1 = x - 1 := (Int32.sub_eq_add_neg x 1).symm
theorem ofNat_ne {k : Nat} (h : k < 2147483648) : ¬ Int32.ofNat k = -1 := by
  intro e
  have h1 := congrArg Int32.toInt e
  rw [nat_toInt h] at h1
  have h2 : (-1 : Int32).toInt = -1 := rfl
  omega
def scwn (m : zmem) (k : Nat) : Int32 := Int32.ofNat k &&& aat 7 (m (7 + 9)) (spop (Int32.ofNat k) - 1)
def scwi (m : zmem) (k j : Nat) (s : Int32) : Int32 := if shas (scwn m k) (Int32.ofNat j) = 0 then s else s + aat 128 (m 56) (Int32.ofNat k &&& (sbit (Int32.ofNat j) ^^^ -1))
def scwo (D k : Nat) (m : zmem) : zmem := aput m 56 128 (Int32.ofNat k) (sfold (scwi m k) D 0 0)
def scw (m : zmem) (D A : Nat) : zmem := sfold (scwo D) A 1 (aput m 56 128 0 1)
def schg1 (m : zmem) (set nm : Int32) : Int32 := if ¬ aat 7 (m (7 + 8)) (spop set) = nm then 1 else 0
def schg (m : zmem) (set nm : Int32) : Int32 := if ¬ shas set nm = 0 then 99 else if ¬ shas (aat 7 (m (7 + 9)) (spop set)) nm = 0 then schg1 m set nm + aat 128 (m 56) (set ||| sbit nm) else 99
def swgo (D k : Nat) (m : zmem) : zmem := aput m 56 128 (Int32.ofNat k) (sfold (fun j s => smin s (schg m (Int32.ofNat k) (Int32.ofNat j))) D 0 99)
def swg (m : zmem) (D A : Nat) : zmem := sdown (swgo D) A (aput m 56 128 (Int32.ofNat A) 0)
def snmc (m : zmem) (set : Int32) (j : Nat) : Bool := decide (schg m set (Int32.ofNat j) = aat 128 (m 56) set)
def snmof (m : zmem) (D : Nat) (set : Int32) : Int32 := sfind (snmc m set) D 0
def snof (m : zmem) (D C : Nat) : Int32 × Int32 := sfold (fun _ s => (s.1 ||| sbit (snmof m D s.1), snmof m D s.1)) (C + 1) 0 (0, -1)
theorem lt0 {n : Nat} (h : n < 2147483648) (c : Int32.ofNat n < 0) : False := by
  rw [Int32.lt_iff_toInt_lt, nat_toInt h, show (0 : Int32).toInt = 0 from rfl] at c
  omega
set_option maxRecDepth 100000 in
set_option maxHeartbeats 4000000 in
theorem c_chg {m : zmem} {set nm : Int32} : Ei MX2_changesWith 1 [.ref 55, .ref 7, .int set, .int nm] m (schg m set nm) (m) := by
  refine Ei.of (by decide) (Nat.le_of_ble_eq_true rfl) ?_
  show Z _ 0 [(0, .ref 55), (1, .ref 7), (2, .int set), (3, .int nm)] _ _ _ _
  refine z_iload_n 2 dX2_changesWith_0 rfl rfl ?_
  refine y_Si [_] _ kX2_32 c_pop dX2_changesWith_1 rfl rfl (Nat.le_of_ble_eq_true rfl) (Nat.le_of_ble_eq_true rfl) ⟨Nat.zero_le _, Nat.zero_le _⟩ ?_
  refine z_itop (y := (spop set)) rfl ?_
  refine z_istore (lv' := [(4, .int (spop set)), (0, .ref 55), (1, .ref 7), (2, .int set), (3, .int nm)]) dX2_changesWith_4 (Nat.le_of_ble_eq_true rfl) rfl ?_
  refine z_iload_n 3 dX2_changesWith_6 rfl rfl ?_
  refine z_iload_n 4 dX2_changesWith_7 rfl rfl ?_
  refine y_Si [_, _] _ kX2_41 c_has dX2_changesWith_8 rfl rfl (Nat.le_of_ble_eq_true rfl) (Nat.le_of_ble_eq_true rfl) ⟨Nat.zero_le _, Nat.zero_le _⟩ ?_
  refine z_if_ne 30 dX2_changesWith_11 (by decide) (fun c_1 => ?_) (fun c_1 => ?_)
  · refine z_bipush 99 dX2_changesWith_30 (by decide) ?_
    exact y_iret dX2_changesWith_32 rfl (by simp [schg, schg1, c_1]) rfl
  · refine z_aload_n 2 dX2_changesWith_14 rfl rfl ?_
    refine y_getR fX2_29 dX2_changesWith_15 isPar7.1 rfl ?_
    refine z_iload 0 dX2_changesWith_18 rfl ?_
    refine y_Si [_, _] _ kX2_37 (c_at (q := (7 + 9)) (n := 7) isPar7.2.2.2.2.2.2.2.2.2 (by decide)) dX2_changesWith_20 rfl rfl (Nat.le_of_ble_eq_true rfl) (Nat.le_of_ble_eq_true rfl) ⟨Nat.zero_le _, Nat.zero_le _⟩ ?_
    refine z_iload_n 4 dX2_changesWith_23 rfl rfl ?_
    refine y_Si [_, _] _ kX2_41 c_has dX2_changesWith_24 rfl rfl (Nat.le_of_ble_eq_true rfl) (Nat.le_of_ble_eq_true rfl) ⟨Nat.zero_le _, Nat.zero_le _⟩ ?_
    refine z_if_ne 33 dX2_changesWith_27 (by decide) (fun c_2 => ?_) (fun c_2 => ?_)
    · refine z_aload_n 2 dX2_changesWith_33 rfl rfl ?_
      refine y_getR fX2_58 dX2_changesWith_34 isPar7.1 rfl ?_
      refine z_iload 0 dX2_changesWith_37 rfl ?_
      refine y_Si [_, _] _ kX2_37 (c_at (q := (7 + 8)) (n := 7) isPar7.2.2.2.2.2.2.2.2.1 (by decide)) dX2_changesWith_39 rfl rfl (Nat.le_of_ble_eq_true rfl) (Nat.le_of_ble_eq_true rfl) ⟨Nat.zero_le _, Nat.zero_le _⟩ ?_
      refine z_iload_n 4 dX2_changesWith_42 rfl rfl ?_
      refine z_icmp_ne 50 dX2_changesWith_43 (by decide) (fun c_3 => ?_) (fun c_3 => ?_)
      · refine z_iconst 1 dX2_changesWith_50 (by decide) ?_
        refine z_istore (lv' := [(5, .int 1), (4, .int (spop set)), (0, .ref 55), (1, .ref 7), (2, .int set), (3, .int nm)]) dX2_changesWith_51 (Nat.le_of_ble_eq_true rfl) rfl ?_
        refine z_iload 0 dX2_changesWith_53 rfl ?_
        refine z_aload_n 2 dX2_changesWith_55 rfl rfl ?_
        refine y_getR fX2_9 dX2_changesWith_56 rfl rfl ?_
        refine z_iload_n 4 dX2_changesWith_59 rfl rfl ?_
        refine z_iload_n 5 dX2_changesWith_60 rfl rfl ?_
        refine y_Si [_] _ kX2_45 c_bit dX2_changesWith_61 rfl rfl (Nat.le_of_ble_eq_true rfl) (Nat.le_of_ble_eq_true rfl) ⟨Nat.zero_le _, Nat.zero_le _⟩ ?_
        refine z_ior dX2_changesWith_64 ?_
        refine y_Si [_, _] _ kX2_37 (c_at (q := 56) (n := 128) rfl (by decide)) dX2_changesWith_65 rfl rfl (Nat.le_of_ble_eq_true rfl) (Nat.le_of_ble_eq_true rfl) ⟨Nat.zero_le _, Nat.zero_le _⟩ ?_
        refine z_iadd dX2_changesWith_68 ?_
        exact y_iret dX2_changesWith_69 rfl (by simp [schg, schg1, c_1, c_2, c_3]) rfl
      · refine z_iconst 0 dX2_changesWith_46 (by decide) ?_
        refine z_goto 51 dX2_changesWith_47 (by decide) ?_
        refine z_istore (lv' := [(5, .int 0), (4, .int (spop set)), (0, .ref 55), (1, .ref 7), (2, .int set), (3, .int nm)]) dX2_changesWith_51 (Nat.le_of_ble_eq_true rfl) rfl ?_
        refine z_iload 0 dX2_changesWith_53 rfl ?_
        refine z_aload_n 2 dX2_changesWith_55 rfl rfl ?_
        refine y_getR fX2_9 dX2_changesWith_56 rfl rfl ?_
        refine z_iload_n 4 dX2_changesWith_59 rfl rfl ?_
        refine z_iload_n 5 dX2_changesWith_60 rfl rfl ?_
        refine y_Si [_] _ kX2_45 c_bit dX2_changesWith_61 rfl rfl (Nat.le_of_ble_eq_true rfl) (Nat.le_of_ble_eq_true rfl) ⟨Nat.zero_le _, Nat.zero_le _⟩ ?_
        refine z_ior dX2_changesWith_64 ?_
        refine y_Si [_, _] _ kX2_37 (c_at (q := 56) (n := 128) rfl (by decide)) dX2_changesWith_65 rfl rfl (Nat.le_of_ble_eq_true rfl) (Nat.le_of_ble_eq_true rfl) ⟨Nat.zero_le _, Nat.zero_le _⟩ ?_
        refine z_iadd dX2_changesWith_68 ?_
        exact y_iret dX2_changesWith_69 rfl (by simp [schg, schg1, c_1, c_2, c_3]) rfl
    · refine z_bipush 99 dX2_changesWith_30 (by decide) ?_
      exact y_iret dX2_changesWith_32 rfl (by simp [schg, schg1, c_1, c_2]) rfl
set_option maxRecDepth 100000 in
set_option maxHeartbeats 4000000 in
theorem c_fewest {m : zmem} : Ei MX2_fewestChanges 1 [.ref 55] m (aat 128 (m 56) 0) (m) := by
  refine Ei.of (by decide) (Nat.le_of_ble_eq_true rfl) ?_
  show Z _ 0 [(0, .ref 55)] _ _ _ _
  refine z_aload_n 0 dX2_fewestChanges_0 rfl rfl ?_
  refine y_getR fX2_9 dX2_fewestChanges_1 rfl rfl ?_
  refine z_iconst 0 dX2_fewestChanges_4 (by decide) ?_
  refine y_Si [_, _] _ kX2_37 (c_at (q := 56) (n := 128) rfl (by decide)) dX2_fewestChanges_5 rfl rfl (Nat.le_of_ble_eq_true rfl) (Nat.le_of_ble_eq_true rfl) ⟨Nat.zero_le _, Nat.zero_le _⟩ ?_
  exact y_iret dX2_fewestChanges_8 rfl rfl rfl
set_option maxRecDepth 100000 in
set_option maxHeartbeats 4000000 in
theorem c_count {m : zmem} {D A : Nat} (hD : m 7 1 = Int32.ofNat D) (hD7 : D ≤ 7) (hA : sbit (m 7 1) - 1 = Int32.ofNat A) (hA7 : A ≤ 127) : Ei MX2_countWays 2 [.ref 55, .ref 7] m (aat 128 (scw m D A 56) (Int32.ofNat A)) (scw m D A) := by
  refine Ei.of (by decide) (Nat.le_of_ble_eq_true rfl) ?_
  show Z _ 0 [(0, .ref 55), (1, .ref 7)] _ _ _ _
  refine z_aload_n 1 dX2_countWays_0 rfl rfl ?_
  refine y_getI fX2_15 dX2_countWays_1 isPar7.1 rfl ?_
  refine y_Si [_] _ kX2_21 c_allBelow dX2_countWays_4 rfl rfl (Nat.le_of_ble_eq_true rfl) (Nat.le_of_ble_eq_true rfl) ⟨Nat.zero_le _, Nat.zero_le _⟩ ?_
  refine z_itop (y := (Int32.ofNat A)) hA ?_
  refine z_istore_n (lv' := [(2, .int (Int32.ofNat A)), (0, .ref 55), (1, .ref 7)]) dX2_countWays_7 rfl (Nat.le_of_ble_eq_true rfl) rfl ?_
  refine z_aload_n 1 dX2_countWays_8 rfl rfl ?_
  refine y_getR fX2_9 dX2_countWays_9 rfl rfl ?_
  refine z_iconst 0 dX2_countWays_12 (by decide) ?_
  refine z_iconst 1 dX2_countWays_13 (by decide) ?_
  refine y_S0 [_, _, _] _ kX2_25 (c_put (q := 56) (n := 128) rfl (by decide)) dX2_countWays_14 rfl rfl (Nat.le_of_ble_eq_true rfl) (Nat.le_of_ble_eq_true rfl) ⟨Nat.zero_le _, Nat.zero_le _⟩ ?_
  refine z_iconst 1 dX2_countWays_17 (by decide) ?_
  refine z_istore_n (lv' := [(3, .int 1), (2, .int (Int32.ofNat A)), (0, .ref 55), (1, .ref 7)]) dX2_countWays_18 rfl (Nat.le_of_ble_eq_true rfl) rfl ?_
  have loop19 : ∀ (n : Nat) (k : Nat) (mm : zmem), k + n = A + 1 → mm 7 1 = Int32.ofNat D → scw m D A = sfold (scwo D) n k mm → Z (zMB (Qi (aat 128 (scw m D A 56) (Int32.ofNat A)) (scw m D A)) 2 MX2_countWays) 19 [(0, .ref 55), (1, .ref 7), (2, .int (Int32.ofNat A)), (3, .int (Int32.ofNat k))] [] (hp mm) 0 0 := by
    intro n
    induction n with
    | zero =>
      intro k mm hk hDm hr
      refine z_iload_n 3 dX2_countWays_19 rfl rfl ?_
      refine z_iload_n 2 dX2_countWays_20 rfl rfl ?_
      refine z_icmp_gt 109 dX2_countWays_21 (by decide) (fun c_1 => ?_) (fun c_1 => ?_)
      · refine z_aload_n 0 dX2_countWays_109 rfl rfl ?_
        refine y_getR fX2_9 dX2_countWays_110 rfl rfl ?_
        refine z_iload_n 2 dX2_countWays_113 rfl rfl ?_
        refine y_Si [_, _] _ kX2_37 (c_at (q := 56) (n := 128) rfl (by decide)) dX2_countWays_114 rfl rfl (Nat.le_of_ble_eq_true rfl) (Nat.le_of_ble_eq_true rfl) ⟨Nat.zero_le _, Nat.zero_le _⟩ ?_
        exact y_iret dX2_countWays_117 rfl (by rw [hr]; rfl) hr.symm
      · exact (dzg (b := Int32.ofNat A) (N := A) rfl (by omega) (by omega) c_1).elim
    | succ n ih19 =>
      intro k mm hk hDm hr
      refine z_iload_n 3 dX2_countWays_19 rfl rfl ?_
      refine z_iload_n 2 dX2_countWays_20 rfl rfl ?_
      refine z_icmp_gt 109 dX2_countWays_21 (by decide) (fun c_2 => ?_) (fun c_2 => ?_)
      · exact (dsg (b := Int32.ofNat A) (N := A) rfl (by omega) (by omega) c_2).elim
      · refine z_iload_n 3 dX2_countWays_24 rfl rfl ?_
        refine z_aload_n 1 dX2_countWays_25 rfl rfl ?_
        refine y_getR fX2_29 dX2_countWays_26 isPar7.1 rfl ?_
        refine z_iload_n 3 dX2_countWays_29 rfl rfl ?_
        refine y_Si [_] _ kX2_32 c_pop dX2_countWays_30 rfl rfl (Nat.le_of_ble_eq_true rfl) (Nat.le_of_ble_eq_true rfl) ⟨Nat.zero_le _, Nat.zero_le _⟩ ?_
        refine z_iconst 1 dX2_countWays_33 (by decide) ?_
        refine z_isub dX2_countWays_34 ?_
        refine y_Si [_, _] _ kX2_37 (c_at (q := (7 + 9)) (n := 7) isPar7.2.2.2.2.2.2.2.2.2 (by decide)) dX2_countWays_35 rfl rfl (Nat.le_of_ble_eq_true rfl) (Nat.le_of_ble_eq_true rfl) ⟨Nat.zero_le _, Nat.zero_le _⟩ ?_
        refine z_iand dX2_countWays_38 ?_
        refine z_topi (fun v_3 e_3 => ?_)
        refine z_istore (lv' := [(4, .int v_3), (0, .ref 55), (1, .ref 7), (2, .int (Int32.ofNat A)), (3, .int (Int32.ofNat k))]) dX2_countWays_39 (Nat.le_of_ble_eq_true rfl) rfl ?_
        refine z_iconst 0 dX2_countWays_41 (by decide) ?_
        refine z_istore (lv' := [(5, .int 0), (4, .int v_3), (0, .ref 55), (1, .ref 7), (2, .int (Int32.ofNat A)), (3, .int (Int32.ofNat k))]) dX2_countWays_42 (Nat.le_of_ble_eq_true rfl) rfl ?_
        refine z_iconst 0 dX2_countWays_44 (by decide) ?_
        refine z_istore (lv' := [(6, .int 0), (5, .int 0), (4, .int v_3), (0, .ref 55), (1, .ref 7), (2, .int (Int32.ofNat A)), (3, .int (Int32.ofNat k))]) dX2_countWays_45 (Nat.le_of_ble_eq_true rfl) rfl ?_
        have loop47 : ∀ (q : Nat) (j : Nat) (nms : Int32) (s : Int32), j + q = D → nms = scwn mm k → scw m D A = sfold (scwo D) n (k + 1) (aput mm 56 128 (Int32.ofNat k) (sfold (scwi mm k) q j s)) → Z (zMB (Qi (aat 128 (scw m D A 56) (Int32.ofNat A)) (scw m D A)) 2 MX2_countWays) 47 [(0, .ref 55), (1, .ref 7), (2, .int (Int32.ofNat A)), (3, .int (Int32.ofNat k)), (4, .int nms), (5, .int s), (6, .int (Int32.ofNat j))] [] (hp mm) 0 0 := by
          intro q
          induction q with
          | zero =>
            intro j nms s hj hn hr
            refine z_iload 6 dX2_countWays_47 rfl ?_
            refine z_aload_n 1 dX2_countWays_49 rfl rfl ?_
            refine y_getI fX2_15 dX2_countWays_50 isPar7.1 rfl ?_
            refine z_icmp_ge 93 dX2_countWays_53 (by decide) (fun c_4 => ?_) (fun c_4 => ?_)
            · refine z_aload_n 0 dX2_countWays_93 rfl rfl ?_
              refine y_getR fX2_9 dX2_countWays_94 rfl rfl ?_
              refine z_iload_n 3 dX2_countWays_97 rfl rfl ?_
              refine z_iload 5 dX2_countWays_98 rfl ?_
              refine y_S0 [_, _, _] _ kX2_25 (c_put (q := 56) (n := 128) rfl (by decide)) dX2_countWays_100 rfl rfl (Nat.le_of_ble_eq_true rfl) (Nat.le_of_ble_eq_true rfl) ⟨Nat.zero_le _, Nat.zero_le _⟩ ?_
              obtain ⟨v_5, e_5⟩ : ∃ y : Int32, y = (Int32.ofNat k) + 1 := ⟨_, rfl⟩
              refine z_iinc (lv' := [(3, .int v_5), (0, .ref 55), (1, .ref 7), (2, .int (Int32.ofNat A)), (4, .int nms), (5, .int s), (6, .int (Int32.ofNat j))]) 3 v_5 dX2_countWays_103 rfl (by rw [e_5]; rfl) (Nat.le_of_ble_eq_true rfl) rfl ?_
              refine z_goto 19 dX2_countWays_106 (by decide) ?_
              obtain rfl : v_5 = Int32.ofNat (k + 1) := e_5.trans (nat_succ k)
              refine z_sub [1,2,3,0] rfl ?_
              exact ih19 (k + 1) _ (by omega) (by simpa [aput_ne] using hDm) hr
            · exact (dz rfl hDm (by omega) (by omega) c_4).elim
          | succ q ih47 =>
            intro j nms s hj hn hr
            refine z_iload 6 dX2_countWays_47 rfl ?_
            refine z_aload_n 1 dX2_countWays_49 rfl rfl ?_
            refine y_getI fX2_15 dX2_countWays_50 isPar7.1 rfl ?_
            refine z_icmp_ge 93 dX2_countWays_53 (by decide) (fun c_6 => ?_) (fun c_6 => ?_)
            · exact (ds rfl hDm (by omega) (by omega) c_6).elim
            · refine z_iload 4 dX2_countWays_56 rfl ?_
              refine z_iload 6 dX2_countWays_58 rfl ?_
              refine y_Si [_, _] _ kX2_41 c_has dX2_countWays_60 rfl rfl (Nat.le_of_ble_eq_true rfl) (Nat.le_of_ble_eq_true rfl) ⟨Nat.zero_le _, Nat.zero_le _⟩ ?_
              refine z_if_eq 87 dX2_countWays_63 (by decide) (fun c_7 => ?_) (fun c_7 => ?_)
              · obtain ⟨v_8, e_8⟩ : ∃ y : Int32, y = (Int32.ofNat j) + 1 := ⟨_, rfl⟩
                refine z_iinc (lv' := [(6, .int v_8), (0, .ref 55), (1, .ref 7), (2, .int (Int32.ofNat A)), (3, .int (Int32.ofNat k)), (4, .int nms), (5, .int s)]) 6 v_8 dX2_countWays_87 rfl (by rw [e_8]; rfl) (Nat.le_of_ble_eq_true rfl) rfl ?_
                refine z_goto 47 dX2_countWays_90 (by decide) ?_
                obtain rfl : v_8 = Int32.ofNat (j + 1) := e_8.trans (nat_succ j)
                refine z_sub [1,2,3,4,5,6,0] rfl ?_
                exact ih47 (j + 1) _ _ (by omega) hn (hr.trans (congrArg (fun z => sfold (scwo D) n (k + 1) (aput mm 56 128 (Int32.ofNat k) (sfold (scwi mm k) q (j + 1) z))) (by simp [scwi, ← hn, c_6, c_7])))
              · refine z_iload 5 dX2_countWays_66 rfl ?_
                refine z_aload_n 0 dX2_countWays_68 rfl rfl ?_
                refine y_getR fX2_9 dX2_countWays_69 rfl rfl ?_
                refine z_iload_n 3 dX2_countWays_72 rfl rfl ?_
                refine z_iload 6 dX2_countWays_73 rfl ?_
                refine y_Si [_] _ kX2_45 c_bit dX2_countWays_75 rfl rfl (Nat.le_of_ble_eq_true rfl) (Nat.le_of_ble_eq_true rfl) ⟨Nat.zero_le _, Nat.zero_le _⟩ ?_
                refine z_iconst (-1) dX2_countWays_78 (by decide) ?_
                refine z_ixor dX2_countWays_79 ?_
                refine z_iand dX2_countWays_80 ?_
                refine y_Si [_, _] _ kX2_37 (c_at (q := 56) (n := 128) rfl (by decide)) dX2_countWays_81 rfl rfl (Nat.le_of_ble_eq_true rfl) (Nat.le_of_ble_eq_true rfl) ⟨Nat.zero_le _, Nat.zero_le _⟩ ?_
                refine z_iadd dX2_countWays_84 ?_
                refine z_topi (fun v_9 e_9 => ?_)
                refine z_istore (lv' := [(5, .int v_9), (0, .ref 55), (1, .ref 7), (2, .int (Int32.ofNat A)), (3, .int (Int32.ofNat k)), (4, .int nms), (6, .int (Int32.ofNat j))]) dX2_countWays_85 (Nat.le_of_ble_eq_true rfl) rfl ?_
                obtain ⟨v_10, e_10⟩ : ∃ y : Int32, y = (Int32.ofNat j) + 1 := ⟨_, rfl⟩
                refine z_iinc (lv' := [(6, .int v_10), (5, .int v_9), (0, .ref 55), (1, .ref 7), (2, .int (Int32.ofNat A)), (3, .int (Int32.ofNat k)), (4, .int nms)]) 6 v_10 dX2_countWays_87 rfl (by rw [e_10]; rfl) (Nat.le_of_ble_eq_true rfl) rfl ?_
                refine z_goto 47 dX2_countWays_90 (by decide) ?_
                obtain rfl : v_10 = Int32.ofNat (j + 1) := e_10.trans (nat_succ j)
                refine z_sub [2,3,4,5,6,1,0] rfl ?_
                exact ih47 (j + 1) _ _ (by omega) hn (hr.trans (congrArg (fun z => sfold (scwo D) n (k + 1) (aput mm 56 128 (Int32.ofNat k) (sfold (scwi mm k) q (j + 1) z))) (by simp [scwi, ← hn, c_6, c_7, e_9])))
        refine z_sub [3,4,5,6,2,1,0] rfl ?_
        exact loop47 (D) 0 _ _ (by omega) e_3 hr
  refine z_sub [2,3,1,0] rfl ?_
  exact loop19 A 1 _ (by omega) (by simpa [aput_ne] using hD) rfl
set_option maxRecDepth 100000 in
set_option maxHeartbeats 4000000 in
theorem c_weigh {m : zmem} {D A : Nat} (hD : m 7 1 = Int32.ofNat D) (hD7 : D ≤ 7) (hA : sbit (m 7 1) - 1 = Int32.ofNat A) (hA7 : A ≤ 127) : E0 MX2_weigh 2 [.ref 55, .ref 7] m (swg m D A) := by
  refine E0.of (by decide) (Nat.le_of_ble_eq_true rfl) ?_
  show Z _ 0 [(0, .ref 55), (1, .ref 7)] _ _ _ _
  refine z_aload_n 1 dX2_weigh_0 rfl rfl ?_
  refine y_getI fX2_15 dX2_weigh_1 isPar7.1 rfl ?_
  refine y_Si [_] _ kX2_21 c_allBelow dX2_weigh_4 rfl rfl (Nat.le_of_ble_eq_true rfl) (Nat.le_of_ble_eq_true rfl) ⟨Nat.zero_le _, Nat.zero_le _⟩ ?_
  refine z_itop (y := (Int32.ofNat A)) hA ?_
  refine z_istore_n (lv' := [(2, .int (Int32.ofNat A)), (0, .ref 55), (1, .ref 7)]) dX2_weigh_7 rfl (Nat.le_of_ble_eq_true rfl) rfl ?_
  refine z_aload_n 1 dX2_weigh_8 rfl rfl ?_
  refine y_getR fX2_9 dX2_weigh_9 rfl rfl ?_
  refine z_iload_n 0 dX2_weigh_12 rfl rfl ?_
  refine z_iconst 0 dX2_weigh_13 (by decide) ?_
  refine y_S0 [_, _, _] _ kX2_25 (c_put (q := 56) (n := 128) rfl (by decide)) dX2_weigh_14 rfl rfl (Nat.le_of_ble_eq_true rfl) (Nat.le_of_ble_eq_true rfl) ⟨Nat.zero_le _, Nat.zero_le _⟩ ?_
  refine z_iload_n 0 dX2_weigh_17 rfl rfl ?_
  refine z_iconst 1 dX2_weigh_18 (by decide) ?_
  refine z_isub dX2_weigh_19 ?_
  refine z_itop (y := (Int32.ofNat A - 1)) rfl ?_
  refine z_istore_n (lv' := [(3, .int (Int32.ofNat A - 1)), (2, .int (Int32.ofNat A)), (0, .ref 55), (1, .ref 7)]) dX2_weigh_20 rfl (Nat.le_of_ble_eq_true rfl) rfl ?_
  have loop21 : ∀ (n : Nat) (mm : zmem), mm 7 1 = Int32.ofNat D → n ≤ 127 → swg m D A = sdown (swgo D) n mm → Z (zMB (Q0 (swg m D A)) 2 MX2_weigh) 21 [(0, .ref 55), (1, .ref 7), (3, .int (Int32.ofNat n - 1))] [] (hp mm) 0 0 := by
    intro n
    induction n with
    | zero =>
      intro mm hDm hn7 hr
      refine z_iload_n 2 dX2_weigh_21 rfl rfl ?_
      refine z_if_lt 78 dX2_weigh_22 (by decide) (fun c_1 => ?_) (fun c_1 => ?_)
      · exact y_vret dX2_weigh_78 rfl hr.symm
      · exact (c_1 (by decide)).elim
    | succ n ih21 =>
      intro mm hDm hn7 hr
      rw [nat_pred]
      refine z_iload_n 2 dX2_weigh_21 rfl rfl ?_
      refine z_if_lt 78 dX2_weigh_22 (by decide) (fun c_2 => ?_) (fun c_2 => ?_)
      · exact (lt0 (by omega) c_2).elim
      · refine z_bipush 99 dX2_weigh_25 (by decide) ?_
        refine z_istore (lv' := [(4, .int 99), (0, .ref 55), (1, .ref 7), (3, .int (Int32.ofNat n))]) dX2_weigh_27 (Nat.le_of_ble_eq_true rfl) rfl ?_
        refine z_iconst 0 dX2_weigh_29 (by decide) ?_
        refine z_istore (lv' := [(5, .int 0), (4, .int 99), (0, .ref 55), (1, .ref 7), (3, .int (Int32.ofNat n))]) dX2_weigh_30 (Nat.le_of_ble_eq_true rfl) rfl ?_
        have loop32 : ∀ (q : Nat) (j : Nat) (s : Int32), j + q = D → swg m D A = sdown (swgo D) n (aput mm 56 128 (Int32.ofNat n) (sfold (fun j s => smin s (schg mm (Int32.ofNat n) (Int32.ofNat j))) q j s)) → Z (zMB (Q0 (swg m D A)) 2 MX2_weigh) 32 [(0, .ref 55), (1, .ref 7), (3, .int (Int32.ofNat n)), (4, .int s), (5, .int (Int32.ofNat j))] [] (hp mm) 0 0 := by
          intro q
          induction q with
          | zero =>
            intro j s hj hr
            refine z_iload 4 dX2_weigh_32 rfl ?_
            refine z_aload_n 1 dX2_weigh_34 rfl rfl ?_
            refine y_getI fX2_15 dX2_weigh_35 isPar7.1 rfl ?_
            refine z_icmp_ge 62 dX2_weigh_38 (by decide) (fun c_3 => ?_) (fun c_3 => ?_)
            · refine z_aload_n 0 dX2_weigh_62 rfl rfl ?_
              refine y_getR fX2_9 dX2_weigh_63 rfl rfl ?_
              refine z_iload_n 2 dX2_weigh_66 rfl rfl ?_
              refine z_iload 3 dX2_weigh_67 rfl ?_
              refine y_S0 [_, _, _] _ kX2_25 (c_put (q := 56) (n := 128) rfl (by decide)) dX2_weigh_69 rfl rfl (Nat.le_of_ble_eq_true rfl) (Nat.le_of_ble_eq_true rfl) ⟨Nat.zero_le _, Nat.zero_le _⟩ ?_
              obtain ⟨v_4, e_4⟩ : ∃ y : Int32, y = (Int32.ofNat n) + (-1) := ⟨_, rfl⟩
              refine z_iinc (lv' := [(3, .int v_4), (0, .ref 55), (1, .ref 7), (4, .int s), (5, .int (Int32.ofNat j))]) 2 v_4 dX2_weigh_72 rfl (by rw [e_4]; rfl) (Nat.le_of_ble_eq_true rfl) rfl ?_
              refine z_goto 21 dX2_weigh_75 (by decide) ?_
              obtain rfl : v_4 = (Int32.ofNat n - 1) := e_4.trans (add_m1 _)
              refine z_sub [1,2,0] rfl ?_
              exact ih21 _ (by simpa [aput_ne] using hDm) (by omega) hr
            · exact (dz rfl hDm (by omega) (by omega) c_3).elim
          | succ q ih32 =>
            intro j s hj hr
            refine z_iload 4 dX2_weigh_32 rfl ?_
            refine z_aload_n 1 dX2_weigh_34 rfl rfl ?_
            refine y_getI fX2_15 dX2_weigh_35 isPar7.1 rfl ?_
            refine z_icmp_ge 62 dX2_weigh_38 (by decide) (fun c_5 => ?_) (fun c_5 => ?_)
            · exact (ds rfl hDm (by omega) (by omega) c_5).elim
            · refine z_iload 3 dX2_weigh_41 rfl ?_
              refine z_aload_n 0 dX2_weigh_43 rfl rfl ?_
              refine z_aload_n 1 dX2_weigh_44 rfl rfl ?_
              refine z_iload_n 2 dX2_weigh_45 rfl rfl ?_
              refine z_iload 4 dX2_weigh_46 rfl ?_
              refine y_Vi [_, _, _] _ kX2_48 c_chg rfl rfl dX2_weigh_48 rfl rfl (Nat.le_of_ble_eq_true rfl) (Nat.le_of_ble_eq_true rfl) ⟨Nat.zero_le _, Nat.zero_le _⟩ ?_
              refine z_mmin lX2_52 zh_min zh_mi zh_minc dX2_weigh_51 (Nat.le_of_ble_eq_true rfl) (Nat.le_of_ble_eq_true rfl) (Nat.zero_le _) (Nat.zero_le _) ?_
              refine z_topi (fun v_6 e_6 => ?_)
              refine z_istore (lv' := [(4, .int v_6), (0, .ref 55), (1, .ref 7), (3, .int (Int32.ofNat n)), (5, .int (Int32.ofNat j))]) dX2_weigh_54 (Nat.le_of_ble_eq_true rfl) rfl ?_
              obtain ⟨v_7, e_7⟩ : ∃ y : Int32, y = (Int32.ofNat j) + 1 := ⟨_, rfl⟩
              refine z_iinc (lv' := [(5, .int v_7), (4, .int v_6), (0, .ref 55), (1, .ref 7), (3, .int (Int32.ofNat n))]) 4 v_7 dX2_weigh_56 rfl (by rw [e_7]; rfl) (Nat.le_of_ble_eq_true rfl) rfl ?_
              refine z_goto 32 dX2_weigh_59 (by decide) ?_
              obtain rfl : v_7 = Int32.ofNat (j + 1) := e_7.trans (nat_succ j)
              refine z_sub [2,3,4,1,0] rfl ?_
              exact ih32 (j + 1) _ (by omega) (hr.trans (congrArg (fun z => sdown (swgo D) n (aput mm 56 128 (Int32.ofNat n) (sfold (fun j s => smin s (schg mm (Int32.ofNat n) (Int32.ofNat j))) q (j + 1) z))) (by simp [smin, c_5, e_6])))
        refine z_sub [2,3,4,1,0] rfl ?_
        exact loop32 (D) 0 _ (by omega) hr
  refine z_sub [2,3,0] rfl ?_
  exact loop21 A _ (by simpa [aput_ne] using hD) hA7 rfl
set_option maxRecDepth 100000 in
set_option maxHeartbeats 4000000 in
theorem c_nameOf {m : zmem} {D C : Nat} (hCf : C ≤ 6) (hD : m 7 1 = Int32.ofNat D) (hD7 : D ≤ 7) : Ei MX2_nameOf 2 [.ref 55, .ref 7, .int (Int32.ofNat C)] m ((snof m D C).2) (m) := by
  refine Ei.of (by decide) (Nat.le_of_ble_eq_true rfl) ?_
  show Z _ 0 [(0, .ref 55), (1, .ref 7), (2, .int (Int32.ofNat C))] _ _ _ _
  refine z_iconst 0 dX2_nameOf_0 (by decide) ?_
  refine z_istore_n (lv' := [(3, .int 0), (0, .ref 55), (1, .ref 7), (2, .int (Int32.ofNat C))]) dX2_nameOf_1 rfl (Nat.le_of_ble_eq_true rfl) rfl ?_
  refine z_iconst (-1) dX2_nameOf_2 (by decide) ?_
  refine z_istore (lv' := [(4, .int (-1)), (3, .int 0), (0, .ref 55), (1, .ref 7), (2, .int (Int32.ofNat C))]) dX2_nameOf_3 (Nat.le_of_ble_eq_true rfl) rfl ?_
  refine z_iconst 0 dX2_nameOf_5 (by decide) ?_
  refine z_istore (lv' := [(5, .int 0), (4, .int (-1)), (3, .int 0), (0, .ref 55), (1, .ref 7), (2, .int (Int32.ofNat C))]) dX2_nameOf_6 (Nat.le_of_ble_eq_true rfl) rfl ?_
  have loop8 : ∀ (n : Nat) (k : Nat) (s : Int32) (tk : Int32), k + n = C + 1 → snof m D C = sfold (fun _ s => (s.1 ||| sbit (snmof m D s.1), snmof m D s.1)) n k (s, tk) → Z (zMB (Qi ((snof m D C).2) (m)) 2 MX2_nameOf) 8 [(0, .ref 55), (1, .ref 7), (2, .int (Int32.ofNat C)), (3, .int s), (4, .int tk), (5, .int (Int32.ofNat k))] [] (hp m) 0 0 := by
    intro n
    induction n with
    | zero =>
      intro k s tk hk hr
      refine z_iload 5 dX2_nameOf_8 rfl ?_
      refine z_iload_n 2 dX2_nameOf_10 rfl rfl ?_
      refine z_icmp_gt 78 dX2_nameOf_11 (by decide) (fun c_1 => ?_) (fun c_1 => ?_)
      · refine z_iload 4 dX2_nameOf_78 rfl ?_
        exact y_iret dX2_nameOf_80 rfl (by rw [hr]; rfl) rfl
      · exact (dzg (b := Int32.ofNat C) (N := C) rfl (by omega) (by omega) c_1).elim
    | succ n ih8 =>
      intro k s tk hk hr
      refine z_iload 5 dX2_nameOf_8 rfl ?_
      refine z_iload_n 2 dX2_nameOf_10 rfl rfl ?_
      refine z_icmp_gt 78 dX2_nameOf_11 (by decide) (fun c_2 => ?_) (fun c_2 => ?_)
      · exact (dsg (b := Int32.ofNat C) (N := C) rfl (by omega) (by omega) c_2).elim
      · refine z_iconst (-1) dX2_nameOf_14 (by decide) ?_
        refine z_istore (lv' := [(4, .int (-1)), (0, .ref 55), (1, .ref 7), (2, .int (Int32.ofNat C)), (3, .int s), (5, .int (Int32.ofNat k))]) dX2_nameOf_15 (Nat.le_of_ble_eq_true rfl) rfl ?_
        refine z_iconst 0 dX2_nameOf_17 (by decide) ?_
        refine z_istore (lv' := [(6, .int 0), (4, .int (-1)), (0, .ref 55), (1, .ref 7), (2, .int (Int32.ofNat C)), (3, .int s), (5, .int (Int32.ofNat k))]) dX2_nameOf_18 (Nat.le_of_ble_eq_true rfl) rfl ?_
        have join64 : ∀ (tk : Int32), tk = snmof m D s → Z (zMB (Qi ((snof m D C).2) (m)) 2 MX2_nameOf) 64 [(0, .ref 55), (1, .ref 7), (2, .int (Int32.ofNat C)), (3, .int s), (4, .int tk), (5, .int (Int32.ofNat k))] [] (hp m) 0 0 := by
          intro tk htk
          refine z_iload_n 3 dX2_nameOf_64 rfl rfl ?_
          refine z_iload 4 dX2_nameOf_65 rfl ?_
          refine y_Si [_] _ kX2_45 c_bit dX2_nameOf_67 rfl rfl (Nat.le_of_ble_eq_true rfl) (Nat.le_of_ble_eq_true rfl) ⟨Nat.zero_le _, Nat.zero_le _⟩ ?_
          refine z_ior dX2_nameOf_70 ?_
          refine z_topi (fun v_3 e_3 => ?_)
          refine z_istore_n (lv' := [(3, .int v_3), (0, .ref 55), (1, .ref 7), (2, .int (Int32.ofNat C)), (4, .int tk), (5, .int (Int32.ofNat k))]) dX2_nameOf_71 rfl (Nat.le_of_ble_eq_true rfl) rfl ?_
          obtain ⟨v_4, e_4⟩ : ∃ y : Int32, y = (Int32.ofNat k) + 1 := ⟨_, rfl⟩
          refine z_iinc (lv' := [(5, .int v_4), (3, .int v_3), (0, .ref 55), (1, .ref 7), (2, .int (Int32.ofNat C)), (4, .int tk)]) 5 v_4 dX2_nameOf_72 rfl (by rw [e_4]; rfl) (Nat.le_of_ble_eq_true rfl) rfl ?_
          refine z_goto 8 dX2_nameOf_75 (by decide) ?_
          obtain rfl : v_4 = Int32.ofNat (k + 1) := e_4.trans (nat_succ k)
          refine z_sub [2,3,4,1,5,0] rfl ?_
          exact ih8 (k + 1) _ _ (by omega) (hr.trans (congrArg (sfold _ n (k + 1)) (by subst_vars; simp [c_2])))
        have loop20 : ∀ (q : Nat) (j : Nat) (tk : Int32), j + q = D → (snmof m D s = if tk = -1 then sfind (snmc m s) q j else tk) → Z (zMB (Qi ((snof m D C).2) (m)) 2 MX2_nameOf) 20 [(0, .ref 55), (1, .ref 7), (2, .int (Int32.ofNat C)), (3, .int s), (4, .int tk), (5, .int (Int32.ofNat k)), (6, .int (Int32.ofNat j))] [] (hp m) 0 0 := by
          intro q
          induction q with
          | zero =>
            intro j tk hj hw
            refine z_iload 6 dX2_nameOf_20 rfl ?_
            refine z_aload_n 1 dX2_nameOf_22 rfl rfl ?_
            refine y_getI fX2_15 dX2_nameOf_23 isPar7.1 rfl ?_
            refine z_icmp_ge 64 dX2_nameOf_26 (by decide) (fun c_5 => ?_) (fun c_5 => ?_)
            · refine z_sub [0,1,2,3,4,5] rfl ?_
              exact join64 _ (by rw [hw]; simp [sfind, c_2, c_5])
            · exact (dz rfl hD (by omega) (by omega) c_5).elim
          | succ q ih20 =>
            intro j tk hj hw
            refine z_iload 6 dX2_nameOf_20 rfl ?_
            refine z_aload_n 1 dX2_nameOf_22 rfl rfl ?_
            refine y_getI fX2_15 dX2_nameOf_23 isPar7.1 rfl ?_
            refine z_icmp_ge 64 dX2_nameOf_26 (by decide) (fun c_6 => ?_) (fun c_6 => ?_)
            · exact (ds rfl hD (by omega) (by omega) c_6).elim
            · refine z_iload 4 dX2_nameOf_29 rfl ?_
              refine z_iconst (-1) dX2_nameOf_31 (by decide) ?_
              refine z_icmp_ne 64 dX2_nameOf_32 (by decide) (fun c_7 => ?_) (fun c_7 => ?_)
              · refine z_sub [0,1,2,3,4,5] rfl ?_
                exact join64 _ (by rw [hw]; simp [sfind, c_2, c_6, c_7])
              · refine z_aload_n 0 dX2_nameOf_35 rfl rfl ?_
                refine z_aload_n 1 dX2_nameOf_36 rfl rfl ?_
                refine z_iload_n 3 dX2_nameOf_37 rfl rfl ?_
                refine z_iload 6 dX2_nameOf_38 rfl ?_
                refine y_Vi [_, _, _] _ kX2_48 c_chg rfl rfl dX2_nameOf_40 rfl rfl (Nat.le_of_ble_eq_true rfl) (Nat.le_of_ble_eq_true rfl) ⟨Nat.zero_le _, Nat.zero_le _⟩ ?_
                refine z_aload_n 0 dX2_nameOf_43 rfl rfl ?_
                refine y_getR fX2_9 dX2_nameOf_44 rfl rfl ?_
                refine z_iload_n 3 dX2_nameOf_47 rfl rfl ?_
                refine y_Si [_, _] _ kX2_37 (c_at (q := 56) (n := 128) rfl (by decide)) dX2_nameOf_48 rfl rfl (Nat.le_of_ble_eq_true rfl) (Nat.le_of_ble_eq_true rfl) ⟨Nat.zero_le _, Nat.zero_le _⟩ ?_
                refine z_icmp_ne 58 dX2_nameOf_51 (by decide) (fun c_8 => ?_) (fun c_8 => ?_)
                · obtain ⟨v_9, e_9⟩ : ∃ y : Int32, y = (Int32.ofNat j) + 1 := ⟨_, rfl⟩
                  refine z_iinc (lv' := [(6, .int v_9), (0, .ref 55), (1, .ref 7), (2, .int (Int32.ofNat C)), (3, .int s), (4, .int tk), (5, .int (Int32.ofNat k))]) 6 v_9 dX2_nameOf_58 rfl (by rw [e_9]; rfl) (Nat.le_of_ble_eq_true rfl) rfl ?_
                  refine z_goto 20 dX2_nameOf_61 (by decide) ?_
                  obtain rfl : v_9 = Int32.ofNat (j + 1) := e_9.trans (nat_succ j)
                  refine z_sub [1,2,3,4,5,6,0] rfl ?_
                  exact ih20 (j + 1) _ (by omega) (hw.trans (by simp [sfind, snmc, ofNat_ne (k := j) (by omega), c_6, c_7, c_8]))
                · refine z_iload 6 dX2_nameOf_54 rfl ?_
                  refine z_istore (lv' := [(4, .int (Int32.ofNat j)), (0, .ref 55), (1, .ref 7), (2, .int (Int32.ofNat C)), (3, .int s), (5, .int (Int32.ofNat k)), (6, .int (Int32.ofNat j))]) dX2_nameOf_56 (Nat.le_of_ble_eq_true rfl) rfl ?_
                  obtain ⟨v_10, e_10⟩ : ∃ y : Int32, y = (Int32.ofNat j) + 1 := ⟨_, rfl⟩
                  refine z_iinc (lv' := [(6, .int v_10), (4, .int (Int32.ofNat j)), (0, .ref 55), (1, .ref 7), (2, .int (Int32.ofNat C)), (3, .int s), (5, .int (Int32.ofNat k))]) 6 v_10 dX2_nameOf_58 rfl (by rw [e_10]; rfl) (Nat.le_of_ble_eq_true rfl) rfl ?_
                  refine z_goto 20 dX2_nameOf_61 (by decide) ?_
                  obtain rfl : v_10 = Int32.ofNat (j + 1) := e_10.trans (nat_succ j)
                  refine z_sub [2,3,4,5,1,6,0] rfl ?_
                  exact ih20 (j + 1) _ (by omega) (hw.trans (by simp [sfind, snmc, ofNat_ne (k := j) (by omega), c_6, c_7, c_8]))
        refine z_sub [2,3,4,5,1,6,0] rfl ?_
        exact loop20 (D) 0 _ (by omega) rfl
  refine z_sub [3,4,5,2,1,0] rfl ?_
  exact loop8 (C + 1) 0 _ _ (by omega) rfl
