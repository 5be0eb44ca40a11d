/-! the plan: who offends whom, quarrels, the search -/
def spop1 (x : Int32) : Int32 := x - ((x.toUInt32 >>> (Int32.toUInt32 1 &&& Int32.toUInt32 31)).toInt32 &&& 1431655765)
def spop2 (x : Int32) : Int32 := (x &&& 858993459) + ((x.toUInt32 >>> (Int32.toUInt32 2 &&& Int32.toUInt32 31)).toInt32 &&& 858993459)
def spop3 (x : Int32) : Int32 := (x + (x.toUInt32 >>> (Int32.toUInt32 4 &&& Int32.toUInt32 31)).toInt32) &&& 252645135
def spop4 (x : Int32) : Int32 := x + (x.toUInt32 >>> (Int32.toUInt32 8 &&& Int32.toUInt32 31)).toInt32
def spop5 (x : Int32) : Int32 := x + (x.toUInt32 >>> (Int32.toUInt32 16 &&& Int32.toUInt32 31)).toInt32
def spop (x : Int32) : Int32 := spop5 (spop4 (spop3 (spop2 (spop1 x)))) &&& 63
def sbg0 (d : Nat) (m : zmem) : zmem := aput (aput (aput m 51 7 (Int32.ofNat d) 0) 52 7 (Int32.ofNat d) 0) 53 7 (Int32.ofNat d) (if sin (m 7 1) (Int32.ofNat d) = 0 then -1 else aat 7 (m 14) (Int32.ofNat d))
def sbgb (C d o : Nat) (m : zmem) : zmem := if lg_cmp (sclaim m 7 3 C (Int32.ofNat d)) (sclaim m 7 3 C (Int32.ofNat o)) ≤ 0 then m else aput m 51 7 (Int32.ofNat d) (aat 7 (m 51) (Int32.ofNat d) ||| sbit (Int32.ofNat o))
def sbgi (C d o : Nat) (m : zmem) : zmem := if ¬ aat 7 (m 11) (Int32.ofNat d) = aat 7 (m 11) (Int32.ofNat o) then sbgb C d o m else aput (sbgb C d o m) 52 7 (Int32.ofNat d) (aat 7 (m 52) (Int32.ofNat d) ||| sbit (Int32.ofNat o))
def sbgo (C d : Nat) (m : zmem) : zmem := sfold (sbgi C d) 7 0 (sbg0 d m)
def spbegin (C : Nat) (m : zmem) : zmem := sfold (sbgo C) 7 0 m
def soff (m : zmem) (o d : Int32) : Int32 := if shas (aat 7 (m 51) d) o = 0 then 0 else if aat 7 (m 53) d ≤ aat 7 (m 53) o then 0 else 1
def swoff (m : zmem) (d : Int32) : Int32 := sfold (fun k s => if aat 7 (m 53) (Int32.ofNat k) = -1 then s else if soff m (Int32.ofNat k) d = 0 then s else s ||| sbit (Int32.ofNat k)) 7 0 0
def sabs (x : Int32) : Int32 := if 0 ≤ x then x else 0 - x
def sqof1 (m : zmem) (d o : Int32) : Int32 := if ¬ soff m o d = 0 then 1 else if soff m d o = 0 then 0 else 1
def sside (m : zmem) (d o : Int32) : Int32 := if ¬ sabs (aat 7 (m 53) d - aat 7 (m 53) o) = 1 then 0 else 1
def sqof (m : zmem) (d o : Int32) : Int32 := if shas (aat 7 (m 52) d) o = 0 then sqof1 m d o else if ¬ sside m d o = 0 then sqof1 m d o else sqof1 m d o + 1
def sqam (m : zmem) (d : Int32) (A : Nat) : Int32 := sfold (fun k s => if Int32.ofNat k = d then s else if aat 7 (m 53) (Int32.ofNat k) = -1 then s else s + sqof m d (Int32.ofNat k)) A 0 0
def sqnow (m : zmem) : Int32 := sfold (fun k s => if aat 7 (m 53) (Int32.ofNat k) = -1 then s else s + sqam m (Int32.ofNat k) k) 7 0 0
def ssleaf (q : Int32) (m : zmem) : zmem := scopy 53 7 54 7 8 0 (mset (mset m 50 5 1) 50 4 q)
/-- the search: e dead are still to be looked at, d the next -/
def sserch : Nat → Nat → Int32 → Int32 → Int32 → zmem → zmem
  | 0, _, _, _, q, m => if ¬ m 50 5 = 0 ∧ ¬ q < m 50 4 then m else ssleaf q m
  | e + 1, d, lf, fr, q, m =>
    if ¬ m 50 5 = 0 ∧ ¬ q < m 50 4 then m
    else if shas lf (Int32.ofNat d) = 0 then sserch e (d + 1) lf fr q m
    else aput (sfold (fun i m => if shas fr (Int32.ofNat i) = 0 then m else sserch e (d + 1) lf (fr &&& (sbit (Int32.ofNat i) ^^^ -1)) (q + sqam (aput m 53 7 (Int32.ofNat d) (Int32.ofNat i)) (Int32.ofNat d) 7) (aput m 53 7 (Int32.ofNat d) (Int32.ofNat i))) 8 0 m) 53 7 (Int32.ofNat d) (-1)
def spfind (lf fr : Int32) (m : zmem) : zmem := if spop fr < spop lf then mset m 50 5 0 else sserch 7 0 lf fr (sqnow (mset m 50 5 0)) (mset m 50 5 0)
set_option maxRecDepth 100000 in
set_option maxHeartbeats 4000000 in
theorem c_pop {m : zmem} {x : Int32} : Ei MJ6_bitCount_0f7a4 0 [.int x] m (spop x) (m) := by
  refine Ei.of (by decide) (Nat.le_of_ble_eq_true rfl) ?_
  show Z _ 0 [(0, .int x)] _ _ _ _
  refine z_iload_n 0 dJ6_bitCount_0f7a4_0 rfl rfl ?_
  refine z_iload_n 0 dJ6_bitCount_0f7a4_1 rfl rfl ?_
  refine z_iconst 1 dJ6_bitCount_0f7a4_2 (by decide) ?_
  refine z_iushr dJ6_bitCount_0f7a4_3 ?_
  refine z_ldcw 1431655765 dJ6_bitCount_0f7a4_4 nJ6_265 ?_
  refine z_iand dJ6_bitCount_0f7a4_7 ?_
  refine z_isub dJ6_bitCount_0f7a4_8 ?_
  refine z_topi (fun v_1 e_1 => ?_)
  refine z_istore_n (lv' := [(0, .int v_1)]) dJ6_bitCount_0f7a4_9 rfl (Nat.le_of_ble_eq_true rfl) rfl ?_
  refine z_iload_n 0 dJ6_bitCount_0f7a4_10 rfl rfl ?_
  refine z_ldcw 858993459 dJ6_bitCount_0f7a4_11 nJ6_266 ?_
  refine z_iand dJ6_bitCount_0f7a4_14 ?_
  refine z_iload_n 0 dJ6_bitCount_0f7a4_15 rfl rfl ?_
  refine z_iconst 2 dJ6_bitCount_0f7a4_16 (by decide) ?_
  refine z_iushr dJ6_bitCount_0f7a4_17 ?_
  refine z_ldcw 858993459 dJ6_bitCount_0f7a4_18 nJ6_266 ?_
  refine z_iand dJ6_bitCount_0f7a4_21 ?_
  refine z_iadd dJ6_bitCount_0f7a4_22 ?_
  refine z_topi (fun v_2 e_2 => ?_)
  refine z_istore_n (lv' := [(0, .int v_2)]) dJ6_bitCount_0f7a4_23 rfl (Nat.le_of_ble_eq_true rfl) rfl ?_
  refine z_iload_n 0 dJ6_bitCount_0f7a4_24 rfl rfl ?_
  refine z_iload_n 0 dJ6_bitCount_0f7a4_25 rfl rfl ?_
  refine z_iconst 4 dJ6_bitCount_0f7a4_26 (by decide) ?_
  refine z_iushr dJ6_bitCount_0f7a4_27 ?_
  refine z_iadd dJ6_bitCount_0f7a4_28 ?_
  refine z_ldcw 252645135 dJ6_bitCount_0f7a4_29 nJ6_267 ?_
  refine z_iand dJ6_bitCount_0f7a4_32 ?_
  refine z_topi (fun v_3 e_3 => ?_)
  refine z_istore_n (lv' := [(0, .int v_3)]) dJ6_bitCount_0f7a4_33 rfl (Nat.le_of_ble_eq_true rfl) rfl ?_
  refine z_iload_n 0 dJ6_bitCount_0f7a4_34 rfl rfl ?_
  refine z_iload_n 0 dJ6_bitCount_0f7a4_35 rfl rfl ?_
  refine z_bipush 8 dJ6_bitCount_0f7a4_36 (by decide) ?_
  refine z_iushr dJ6_bitCount_0f7a4_38 ?_
  refine z_iadd dJ6_bitCount_0f7a4_39 ?_
  refine z_topi (fun v_4 e_4 => ?_)
  refine z_istore_n (lv' := [(0, .int v_4)]) dJ6_bitCount_0f7a4_40 rfl (Nat.le_of_ble_eq_true rfl) rfl ?_
  refine z_iload_n 0 dJ6_bitCount_0f7a4_41 rfl rfl ?_
  refine z_iload_n 0 dJ6_bitCount_0f7a4_42 rfl rfl ?_
  refine z_bipush 16 dJ6_bitCount_0f7a4_43 (by decide) ?_
  refine z_iushr dJ6_bitCount_0f7a4_45 ?_
  refine z_iadd dJ6_bitCount_0f7a4_46 ?_
  refine z_topi (fun v_5 e_5 => ?_)
  refine z_istore_n (lv' := [(0, .int v_5)]) dJ6_bitCount_0f7a4_47 rfl (Nat.le_of_ble_eq_true rfl) rfl ?_
  refine z_iload_n 0 dJ6_bitCount_0f7a4_48 rfl rfl ?_
  refine z_bipush 63 dJ6_bitCount_0f7a4_49 (by decide) ?_
  refine z_iand dJ6_bitCount_0f7a4_51 ?_
  exact y_iret dJ6_bitCount_0f7a4_52 rfl (by subst_vars; rfl) rfl
set_option maxRecDepth 100000 in
set_option maxHeartbeats 4000000 in
theorem c_planBegin {m : zmem} {C : Nat} (hC : m 3 1 = Int32.ofNat C) (hC4 : C ≤ 4) : E0 MX4_begin 3 [.ref 50, .ref 7, .ref 3] m (spbegin C m) := by
  refine E0.of (by decide) (Nat.le_of_ble_eq_true rfl) ?_
  show Z _ 0 [(0, .ref 50), (1, .ref 7), (2, .ref 3)] _ _ _ _
  refine z_iconst 0 dX4_begin_0 (by decide) ?_
  refine z_istore_n (lv' := [(3, .int 0), (0, .ref 50), (1, .ref 7), (2, .ref 3)]) dX4_begin_1 rfl (Nat.le_of_ble_eq_true rfl) rfl ?_
  have loop2 : ∀ (n : Nat) (k : Nat) (mm : zmem), k + n = 7 → mm 3 1 = Int32.ofNat C → spbegin C m = sfold (sbgo C) n k mm → Z (zMB (Q0 (spbegin C m)) 3 MX4_begin) 2 [(0, .ref 50), (1, .ref 7), (2, .ref 3), (3, .int (Int32.ofNat k))] [] (hp mm) 0 0 := by
    intro n
    induction n with
    | zero =>
      intro k mm hk hCm hr
      refine z_iload_n 3 dX4_begin_2 rfl rfl ?_
      refine z_bipush 7 dX4_begin_3 (by decide) ?_
      refine z_icmp_ge 157 dX4_begin_5 (by decide) (fun c_1 => ?_) (fun c_1 => ?_)
      · exact y_vret dX4_begin_157 rfl hr.symm
      · exact (dz rfl (b := 7) (N := 7) rfl (by omega) (by omega) c_1).elim
    | succ n ih2 =>
      intro k mm hk hCm hr
      refine z_iload_n 3 dX4_begin_2 rfl rfl ?_
      refine z_bipush 7 dX4_begin_3 (by decide) ?_
      refine z_icmp_ge 157 dX4_begin_5 (by decide) (fun c_2 => ?_) (fun c_2 => ?_)
      · exact (ds rfl (b := 7) (N := 7) rfl (by omega) (by omega) c_2).elim
      · refine z_aload_n 0 dX4_begin_8 rfl rfl ?_
        refine y_getR fX4_9 dX4_begin_9 rfl rfl ?_
        refine z_iload_n 3 dX4_begin_12 rfl rfl ?_
        refine z_iconst 0 dX4_begin_13 (by decide) ?_
        refine y_S0 [_, _, _] _ kX4_32 (c_put (q := 51) (n := 7) rfl (by decide)) dX4_begin_14 rfl rfl (Nat.le_of_ble_eq_true rfl) (Nat.le_of_ble_eq_true rfl) ⟨Nat.zero_le _, Nat.zero_le _⟩ ?_
        refine z_aload_n 0 dX4_begin_17 rfl rfl ?_
        refine y_getR fX4_15 dX4_begin_18 rfl rfl ?_
        refine z_iload_n 3 dX4_begin_21 rfl rfl ?_
        refine z_iconst 0 dX4_begin_22 (by decide) ?_
        refine y_S0 [_, _, _] _ kX4_32 (c_put (q := 52) (n := 7) rfl (by decide)) dX4_begin_23 rfl rfl (Nat.le_of_ble_eq_true rfl) (Nat.le_of_ble_eq_true rfl) ⟨Nat.zero_le _, Nat.zero_le _⟩ ?_
        refine z_aload_n 0 dX4_begin_26 rfl rfl ?_
        refine y_getR fX4_18 dX4_begin_27 rfl rfl ?_
        refine z_iload_n 3 dX4_begin_30 rfl rfl ?_
        refine z_aload_n 1 dX4_begin_31 rfl rfl ?_
        refine z_iload_n 3 dX4_begin_32 rfl rfl ?_
        refine y_Vi [_] _ kX4_36 (c_hasDead isPar7) rfl isPar7.1 dX4_begin_33 rfl rfl (Nat.le_of_ble_eq_true rfl) (Nat.le_of_ble_eq_true rfl) ⟨Nat.zero_le _, Nat.zero_le _⟩ ?_
        refine z_itop (y := (sin (mm 7 1) (Int32.ofNat k))) (by simp [aput_ne]) ?_
        refine z_if_eq 50 dX4_begin_36 (by decide) (fun c_3 => ?_) (fun c_3 => ?_)
        · refine z_iconst (-1) dX4_begin_50 (by decide) ?_
          refine y_S0 [_, _, _] _ kX4_32 (c_put (q := 53) (n := 7) rfl (by decide)) dX4_begin_51 rfl rfl (Nat.le_of_ble_eq_true rfl) (Nat.le_of_ble_eq_true rfl) ⟨Nat.zero_le _, Nat.zero_le _⟩ ?_
          refine z_iconst 0 dX4_begin_54 (by decide) ?_
          refine z_istore (lv' := [(4, .int 0), (0, .ref 50), (1, .ref 7), (2, .ref 3), (3, .int (Int32.ofNat k))]) dX4_begin_55 (Nat.le_of_ble_eq_true rfl) rfl ?_
          have loop57 : ∀ (q : Nat) (j : Nat) (mm : zmem), j + q = 7 → mm 3 1 = Int32.ofNat C → spbegin C m = sfold (sbgo C) n (k + 1) (sfold (sbgi C k) q j mm) → Z (zMB (Q0 (spbegin C m)) 3 MX4_begin) 57 [(0, .ref 50), (1, .ref 7), (2, .ref 3), (3, .int (Int32.ofNat k)), (4, .int (Int32.ofNat j))] [] (hp mm) 0 0 := by
            intro q
            induction q with
            | zero =>
              intro j mm hj hCm hr
              refine z_iload 4 dX4_begin_57 rfl ?_
              refine z_bipush 7 dX4_begin_59 (by decide) ?_
              refine z_icmp_ge 151 dX4_begin_61 (by decide) (fun c_4 => ?_) (fun c_4 => ?_)
              · obtain ⟨v_5, e_5⟩ : ∃ y : Int32, y = (Int32.ofNat k) + 1 := ⟨_, rfl⟩
                refine z_iinc (lv' := [(3, .int v_5), (0, .ref 50), (1, .ref 7), (2, .ref 3), (4, .int (Int32.ofNat j))]) 3 v_5 dX4_begin_151 rfl (by rw [e_5]; rfl) (Nat.le_of_ble_eq_true rfl) rfl ?_
                refine z_goto 2 dX4_begin_154 (by decide) ?_
                obtain rfl : v_5 = Int32.ofNat (k + 1) := e_5.trans (nat_succ k)
                refine z_sub [1,2,3,0] rfl ?_
                exact ih2 (k + 1) _ (by omega) hCm hr
              · exact (dz rfl (b := 7) (N := 7) rfl (by omega) (by omega) c_4).elim
            | succ q ih57 =>
              intro j mm hj hCm hr
              refine z_iload 4 dX4_begin_57 rfl ?_
              refine z_bipush 7 dX4_begin_59 (by decide) ?_
              refine z_icmp_ge 151 dX4_begin_61 (by decide) (fun c_6 => ?_) (fun c_6 => ?_)
              · exact (ds rfl (b := 7) (N := 7) rfl (by omega) (by omega) c_6).elim
              · refine z_aload_n 1 dX4_begin_64 rfl rfl ?_
                refine z_aload_n 2 dX4_begin_65 rfl rfl ?_
                refine z_iload_n 3 dX4_begin_66 rfl rfl ?_
                refine y_Vl [_, _] _ kX4_49 (c_claim isPar7 isCus3 hCm hC4) rfl isPar7.1 dX4_begin_67 rfl rfl (Nat.le_of_ble_eq_true rfl) (Nat.le_of_ble_eq_true rfl) ⟨Nat.zero_le _, Nat.zero_le _⟩ ?_
                refine z_aload_n 1 dX4_begin_70 rfl rfl ?_
                refine z_aload_n 2 dX4_begin_71 rfl rfl ?_
                refine z_iload 4 dX4_begin_72 rfl ?_
                refine y_Vl [_, _] _ kX4_49 (c_claim isPar7 isCus3 hCm hC4) rfl isPar7.1 dX4_begin_74 rfl rfl (Nat.le_of_ble_eq_true rfl) (Nat.le_of_ble_eq_true rfl) ⟨Nat.zero_le _, Nat.zero_le _⟩ ?_
                refine z_lcmp dX4_begin_77 ?_
                refine z_if_le 103 dX4_begin_78 (by decide) (fun c_7 => ?_) (fun c_7 => ?_)
                · refine z_aload_n 1 dX4_begin_103 rfl rfl ?_
                  refine y_getR fX4_57 dX4_begin_104 isPar7.1 rfl ?_
                  refine z_iload_n 3 dX4_begin_107 rfl rfl ?_
                  refine y_Si [_, _] _ kX4_45 (c_at (q := (7 + 4)) (n := 7) isPar7.2.2.2.2.1 (by decide)) dX4_begin_108 rfl rfl (Nat.le_of_ble_eq_true rfl) (Nat.le_of_ble_eq_true rfl) ⟨Nat.zero_le _, Nat.zero_le _⟩ ?_
                  refine z_itop (y := (aat 7 (mm 11) (Int32.ofNat k))) (by simp [aput_ne]) ?_
                  refine z_aload_n 1 dX4_begin_111 rfl rfl ?_
                  refine y_getR fX4_57 dX4_begin_112 isPar7.1 rfl ?_
                  refine z_iload 4 dX4_begin_115 rfl ?_
                  refine y_Si [_, _] _ kX4_45 (c_at (q := (7 + 4)) (n := 7) isPar7.2.2.2.2.1 (by decide)) dX4_begin_117 rfl rfl (Nat.le_of_ble_eq_true rfl) (Nat.le_of_ble_eq_true rfl) ⟨Nat.zero_le _, Nat.zero_le _⟩ ?_
                  refine z_itop (y := (aat 7 (mm 11) (Int32.ofNat j))) (by simp [aput_ne]) ?_
                  refine z_icmp_ne 145 dX4_begin_120 (by decide) (fun c_8 => ?_) (fun c_8 => ?_)
                  · obtain ⟨v_9, e_9⟩ : ∃ y : Int32, y = (Int32.ofNat j) + 1 := ⟨_, rfl⟩
                    refine z_iinc (lv' := [(4, .int v_9), (0, .ref 50), (1, .ref 7), (2, .ref 3), (3, .int (Int32.ofNat k))]) 4 v_9 dX4_begin_145 rfl (by rw [e_9]; rfl) (Nat.le_of_ble_eq_true rfl) rfl ?_
                    refine z_goto 57 dX4_begin_148 (by decide) ?_
                    obtain rfl : v_9 = Int32.ofNat (j + 1) := e_9.trans (nat_succ j)
                    refine z_sub [1,2,3,4,0] rfl ?_
                    exact ih57 (j + 1) _ (by omega) (by simpa [aput_ne] using hCm) (hr.trans (congrArg (fun z => sfold (sbgo C) n (k + 1) (sfold (sbgi C k) q (j + 1) z)) (by simp [sbgi, sbgb, aput_ne, c_6, c_7, c_8])))
                  · refine z_aload_n 0 dX4_begin_123 rfl rfl ?_
                    refine y_getR fX4_15 dX4_begin_124 rfl rfl ?_
                    refine z_iload_n 3 dX4_begin_127 rfl rfl ?_
                    refine z_aload_n 0 dX4_begin_128 rfl rfl ?_
                    refine y_getR fX4_15 dX4_begin_129 rfl rfl ?_
                    refine z_iload_n 3 dX4_begin_132 rfl rfl ?_
                    refine y_Si [_, _] _ kX4_45 (c_at (q := 52) (n := 7) rfl (by decide)) dX4_begin_133 rfl rfl (Nat.le_of_ble_eq_true rfl) (Nat.le_of_ble_eq_true rfl) ⟨Nat.zero_le _, Nat.zero_le _⟩ ?_
                    refine z_itop (y := (aat 7 (mm 52) (Int32.ofNat k))) (by simp [aput_ne]) ?_
                    refine z_iload 4 dX4_begin_136 rfl ?_
                    refine y_Si [_] _ kX4_53 c_bit dX4_begin_138 rfl rfl (Nat.le_of_ble_eq_true rfl) (Nat.le_of_ble_eq_true rfl) ⟨Nat.zero_le _, Nat.zero_le _⟩ ?_
                    refine z_ior dX4_begin_141 ?_
                    refine y_S0 [_, _, _] _ kX4_32 (c_put (q := 52) (n := 7) rfl (by decide)) dX4_begin_142 rfl rfl (Nat.le_of_ble_eq_true rfl) (Nat.le_of_ble_eq_true rfl) ⟨Nat.zero_le _, Nat.zero_le _⟩ ?_
                    obtain ⟨v_10, e_10⟩ : ∃ y : Int32, y = (Int32.ofNat j) + 1 := ⟨_, rfl⟩
                    refine z_iinc (lv' := [(4, .int v_10), (0, .ref 50), (1, .ref 7), (2, .ref 3), (3, .int (Int32.ofNat k))]) 4 v_10 dX4_begin_145 rfl (by rw [e_10]; rfl) (Nat.le_of_ble_eq_true rfl) rfl ?_
                    refine z_goto 57 dX4_begin_148 (by decide) ?_
                    obtain rfl : v_10 = Int32.ofNat (j + 1) := e_10.trans (nat_succ j)
                    refine z_sub [1,2,3,4,0] rfl ?_
                    exact ih57 (j + 1) _ (by omega) (by simpa [aput_ne] using hCm) (hr.trans (congrArg (fun z => sfold (sbgo C) n (k + 1) (sfold (sbgi C k) q (j + 1) z)) (by simp [sbgi, sbgb, aput_ne, c_6, c_7, c_8])))
                · refine z_aload_n 0 dX4_begin_81 rfl rfl ?_
                  refine y_getR fX4_9 dX4_begin_82 rfl rfl ?_
                  refine z_iload_n 3 dX4_begin_85 rfl rfl ?_
                  refine z_aload_n 0 dX4_begin_86 rfl rfl ?_
                  refine y_getR fX4_9 dX4_begin_87 rfl rfl ?_
                  refine z_iload_n 3 dX4_begin_90 rfl rfl ?_
                  refine y_Si [_, _] _ kX4_45 (c_at (q := 51) (n := 7) rfl (by decide)) dX4_begin_91 rfl rfl (Nat.le_of_ble_eq_true rfl) (Nat.le_of_ble_eq_true rfl) ⟨Nat.zero_le _, Nat.zero_le _⟩ ?_
                  refine z_iload 4 dX4_begin_94 rfl ?_
                  refine y_Si [_] _ kX4_53 c_bit dX4_begin_96 rfl rfl (Nat.le_of_ble_eq_true rfl) (Nat.le_of_ble_eq_true rfl) ⟨Nat.zero_le _, Nat.zero_le _⟩ ?_
                  refine z_ior dX4_begin_99 ?_
                  refine y_S0 [_, _, _] _ kX4_32 (c_put (q := 51) (n := 7) rfl (by decide)) dX4_begin_100 rfl rfl (Nat.le_of_ble_eq_true rfl) (Nat.le_of_ble_eq_true rfl) ⟨Nat.zero_le _, Nat.zero_le _⟩ ?_
                  refine z_aload_n 1 dX4_begin_103 rfl rfl ?_
                  refine y_getR fX4_57 dX4_begin_104 isPar7.1 rfl ?_
                  refine z_iload_n 3 dX4_begin_107 rfl rfl ?_
                  refine y_Si [_, _] _ kX4_45 (c_at (q := (7 + 4)) (n := 7) isPar7.2.2.2.2.1 (by decide)) dX4_begin_108 rfl rfl (Nat.le_of_ble_eq_true rfl) (Nat.le_of_ble_eq_true rfl) ⟨Nat.zero_le _, Nat.zero_le _⟩ ?_
                  refine z_itop (y := (aat 7 (mm 11) (Int32.ofNat k))) (by simp [aput_ne]) ?_
                  refine z_aload_n 1 dX4_begin_111 rfl rfl ?_
                  refine y_getR fX4_57 dX4_begin_112 isPar7.1 rfl ?_
                  refine z_iload 4 dX4_begin_115 rfl ?_
                  refine y_Si [_, _] _ kX4_45 (c_at (q := (7 + 4)) (n := 7) isPar7.2.2.2.2.1 (by decide)) dX4_begin_117 rfl rfl (Nat.le_of_ble_eq_true rfl) (Nat.le_of_ble_eq_true rfl) ⟨Nat.zero_le _, Nat.zero_le _⟩ ?_
                  refine z_itop (y := (aat 7 (mm 11) (Int32.ofNat j))) (by simp [aput_ne]) ?_
                  refine z_icmp_ne 145 dX4_begin_120 (by decide) (fun c_11 => ?_) (fun c_11 => ?_)
                  · obtain ⟨v_12, e_12⟩ : ∃ y : Int32, y = (Int32.ofNat j) + 1 := ⟨_, rfl⟩
                    refine z_iinc (lv' := [(4, .int v_12), (0, .ref 50), (1, .ref 7), (2, .ref 3), (3, .int (Int32.ofNat k))]) 4 v_12 dX4_begin_145 rfl (by rw [e_12]; rfl) (Nat.le_of_ble_eq_true rfl) rfl ?_
                    refine z_goto 57 dX4_begin_148 (by decide) ?_
                    obtain rfl : v_12 = Int32.ofNat (j + 1) := e_12.trans (nat_succ j)
                    refine z_sub [1,2,3,4,0] rfl ?_
                    exact ih57 (j + 1) _ (by omega) (by simpa [aput_ne] using hCm) (hr.trans (congrArg (fun z => sfold (sbgo C) n (k + 1) (sfold (sbgi C k) q (j + 1) z)) (by simp [sbgi, sbgb, aput_ne, c_6, c_7, c_11])))
                  · refine z_aload_n 0 dX4_begin_123 rfl rfl ?_
                    refine y_getR fX4_15 dX4_begin_124 rfl rfl ?_
                    refine z_iload_n 3 dX4_begin_127 rfl rfl ?_
                    refine z_aload_n 0 dX4_begin_128 rfl rfl ?_
                    refine y_getR fX4_15 dX4_begin_129 rfl rfl ?_
                    refine z_iload_n 3 dX4_begin_132 rfl rfl ?_
                    refine y_Si [_, _] _ kX4_45 (c_at (q := 52) (n := 7) rfl (by decide)) dX4_begin_133 rfl rfl (Nat.le_of_ble_eq_true rfl) (Nat.le_of_ble_eq_true rfl) ⟨Nat.zero_le _, Nat.zero_le _⟩ ?_
                    refine z_itop (y := (aat 7 (mm 52) (Int32.ofNat k))) (by simp [aput_ne]) ?_
                    refine z_iload 4 dX4_begin_136 rfl ?_
                    refine y_Si [_] _ kX4_53 c_bit dX4_begin_138 rfl rfl (Nat.le_of_ble_eq_true rfl) (Nat.le_of_ble_eq_true rfl) ⟨Nat.zero_le _, Nat.zero_le _⟩ ?_
                    refine z_ior dX4_begin_141 ?_
                    refine y_S0 [_, _, _] _ kX4_32 (c_put (q := 52) (n := 7) rfl (by decide)) dX4_begin_142 rfl rfl (Nat.le_of_ble_eq_true rfl) (Nat.le_of_ble_eq_true rfl) ⟨Nat.zero_le _, Nat.zero_le _⟩ ?_
                    obtain ⟨v_13, e_13⟩ : ∃ y : Int32, y = (Int32.ofNat j) + 1 := ⟨_, rfl⟩
                    refine z_iinc (lv' := [(4, .int v_13), (0, .ref 50), (1, .ref 7), (2, .ref 3), (3, .int (Int32.ofNat k))]) 4 v_13 dX4_begin_145 rfl (by rw [e_13]; rfl) (Nat.le_of_ble_eq_true rfl) rfl ?_
                    refine z_goto 57 dX4_begin_148 (by decide) ?_
                    obtain rfl : v_13 = Int32.ofNat (j + 1) := e_13.trans (nat_succ j)
                    refine z_sub [1,2,3,4,0] rfl ?_
                    exact ih57 (j + 1) _ (by omega) (by simpa [aput_ne] using hCm) (hr.trans (congrArg (fun z => sfold (sbgo C) n (k + 1) (sfold (sbgi C k) q (j + 1) z)) (by simp [sbgi, sbgb, aput_ne, c_6, c_7, c_11])))
          refine z_sub [1,2,3,4,0] rfl ?_
          exact loop57 (7) 0 _ (by omega) (by simpa [aput_ne] using hCm) (hr.trans (congrArg (fun z => sfold (sbgo C) n (k + 1) (sfold (sbgi C k) 7 0 z)) (by simp [sbg0, c_2, c_3])))
        · refine z_aload_n 1 dX4_begin_39 rfl rfl ?_
          refine y_getR fX4_42 dX4_begin_40 isPar7.1 rfl ?_
          refine z_iload_n 3 dX4_begin_43 rfl rfl ?_
          refine y_Si [_, _] _ kX4_45 (c_at (q := (7 + 7)) (n := 7) isPar7.2.2.2.2.2.2.2.1 (by decide)) dX4_begin_44 rfl rfl (Nat.le_of_ble_eq_true rfl) (Nat.le_of_ble_eq_true rfl) ⟨Nat.zero_le _, Nat.zero_le _⟩ ?_
          refine z_itop (y := (aat 7 (mm 14) (Int32.ofNat k))) (by simp [aput_ne]) ?_
          refine z_goto 51 dX4_begin_47 (by decide) ?_
          refine y_S0 [_, _, _] _ kX4_32 (c_put (q := 53) (n := 7) rfl (by decide)) dX4_begin_51 rfl rfl (Nat.le_of_ble_eq_true rfl) (Nat.le_of_ble_eq_true rfl) ⟨Nat.zero_le _, Nat.zero_le _⟩ ?_
          refine z_iconst 0 dX4_begin_54 (by decide) ?_
          refine z_istore (lv' := [(4, .int 0), (0, .ref 50), (1, .ref 7), (2, .ref 3), (3, .int (Int32.ofNat k))]) dX4_begin_55 (Nat.le_of_ble_eq_true rfl) rfl ?_
          have loop57 : ∀ (q : Nat) (j : Nat) (mm : zmem), j + q = 7 → mm 3 1 = Int32.ofNat C → spbegin C m = sfold (sbgo C) n (k + 1) (sfold (sbgi C k) q j mm) → Z (zMB (Q0 (spbegin C m)) 3 MX4_begin) 57 [(0, .ref 50), (1, .ref 7), (2, .ref 3), (3, .int (Int32.ofNat k)), (4, .int (Int32.ofNat j))] [] (hp mm) 0 0 := by
            intro q
            induction q with
            | zero =>
              intro j mm hj hCm hr
              refine z_iload 4 dX4_begin_57 rfl ?_
              refine z_bipush 7 dX4_begin_59 (by decide) ?_
              refine z_icmp_ge 151 dX4_begin_61 (by decide) (fun c_14 => ?_) (fun c_14 => ?_)
              · obtain ⟨v_15, e_15⟩ : ∃ y : Int32, y = (Int32.ofNat k) + 1 := ⟨_, rfl⟩
                refine z_iinc (lv' := [(3, .int v_15), (0, .ref 50), (1, .ref 7), (2, .ref 3), (4, .int (Int32.ofNat j))]) 3 v_15 dX4_begin_151 rfl (by rw [e_15]; rfl) (Nat.le_of_ble_eq_true rfl) rfl ?_
                refine z_goto 2 dX4_begin_154 (by decide) ?_
                obtain rfl : v_15 = Int32.ofNat (k + 1) := e_15.trans (nat_succ k)
                refine z_sub [1,2,3,0] rfl ?_
                exact ih2 (k + 1) _ (by omega) hCm hr
              · exact (dz rfl (b := 7) (N := 7) rfl (by omega) (by omega) c_14).elim
            | succ q ih57 =>
              intro j mm hj hCm hr
              refine z_iload 4 dX4_begin_57 rfl ?_
              refine z_bipush 7 dX4_begin_59 (by decide) ?_
              refine z_icmp_ge 151 dX4_begin_61 (by decide) (fun c_16 => ?_) (fun c_16 => ?_)
              · exact (ds rfl (b := 7) (N := 7) rfl (by omega) (by omega) c_16).elim
              · refine z_aload_n 1 dX4_begin_64 rfl rfl ?_
                refine z_aload_n 2 dX4_begin_65 rfl rfl ?_
                refine z_iload_n 3 dX4_begin_66 rfl rfl ?_
                refine y_Vl [_, _] _ kX4_49 (c_claim isPar7 isCus3 hCm hC4) rfl isPar7.1 dX4_begin_67 rfl rfl (Nat.le_of_ble_eq_true rfl) (Nat.le_of_ble_eq_true rfl) ⟨Nat.zero_le _, Nat.zero_le _⟩ ?_
                refine z_aload_n 1 dX4_begin_70 rfl rfl ?_
                refine z_aload_n 2 dX4_begin_71 rfl rfl ?_
                refine z_iload 4 dX4_begin_72 rfl ?_
                refine y_Vl [_, _] _ kX4_49 (c_claim isPar7 isCus3 hCm hC4) rfl isPar7.1 dX4_begin_74 rfl rfl (Nat.le_of_ble_eq_true rfl) (Nat.le_of_ble_eq_true rfl) ⟨Nat.zero_le _, Nat.zero_le _⟩ ?_
                refine z_lcmp dX4_begin_77 ?_
                refine z_if_le 103 dX4_begin_78 (by decide) (fun c_17 => ?_) (fun c_17 => ?_)
                · refine z_aload_n 1 dX4_begin_103 rfl rfl ?_
                  refine y_getR fX4_57 dX4_begin_104 isPar7.1 rfl ?_
                  refine z_iload_n 3 dX4_begin_107 rfl rfl ?_
                  refine y_Si [_, _] _ kX4_45 (c_at (q := (7 + 4)) (n := 7) isPar7.2.2.2.2.1 (by decide)) dX4_begin_108 rfl rfl (Nat.le_of_ble_eq_true rfl) (Nat.le_of_ble_eq_true rfl) ⟨Nat.zero_le _, Nat.zero_le _⟩ ?_
                  refine z_itop (y := (aat 7 (mm 11) (Int32.ofNat k))) (by simp [aput_ne]) ?_
                  refine z_aload_n 1 dX4_begin_111 rfl rfl ?_
                  refine y_getR fX4_57 dX4_begin_112 isPar7.1 rfl ?_
                  refine z_iload 4 dX4_begin_115 rfl ?_
                  refine y_Si [_, _] _ kX4_45 (c_at (q := (7 + 4)) (n := 7) isPar7.2.2.2.2.1 (by decide)) dX4_begin_117 rfl rfl (Nat.le_of_ble_eq_true rfl) (Nat.le_of_ble_eq_true rfl) ⟨Nat.zero_le _, Nat.zero_le _⟩ ?_
                  refine z_itop (y := (aat 7 (mm 11) (Int32.ofNat j))) (by simp [aput_ne]) ?_
                  refine z_icmp_ne 145 dX4_begin_120 (by decide) (fun c_18 => ?_) (fun c_18 => ?_)
                  · obtain ⟨v_19, e_19⟩ : ∃ y : Int32, y = (Int32.ofNat j) + 1 := ⟨_, rfl⟩
                    refine z_iinc (lv' := [(4, .int v_19), (0, .ref 50), (1, .ref 7), (2, .ref 3), (3, .int (Int32.ofNat k))]) 4 v_19 dX4_begin_145 rfl (by rw [e_19]; rfl) (Nat.le_of_ble_eq_true rfl) rfl ?_
                    refine z_goto 57 dX4_begin_148 (by decide) ?_
                    obtain rfl : v_19 = Int32.ofNat (j + 1) := e_19.trans (nat_succ j)
                    refine z_sub [1,2,3,4,0] rfl ?_
                    exact ih57 (j + 1) _ (by omega) (by simpa [aput_ne] using hCm) (hr.trans (congrArg (fun z => sfold (sbgo C) n (k + 1) (sfold (sbgi C k) q (j + 1) z)) (by simp [sbgi, sbgb, aput_ne, c_16, c_17, c_18])))
                  · refine z_aload_n 0 dX4_begin_123 rfl rfl ?_
                    refine y_getR fX4_15 dX4_begin_124 rfl rfl ?_
                    refine z_iload_n 3 dX4_begin_127 rfl rfl ?_
                    refine z_aload_n 0 dX4_begin_128 rfl rfl ?_
                    refine y_getR fX4_15 dX4_begin_129 rfl rfl ?_
                    refine z_iload_n 3 dX4_begin_132 rfl rfl ?_
                    refine y_Si [_, _] _ kX4_45 (c_at (q := 52) (n := 7) rfl (by decide)) dX4_begin_133 rfl rfl (Nat.le_of_ble_eq_true rfl) (Nat.le_of_ble_eq_true rfl) ⟨Nat.zero_le _, Nat.zero_le _⟩ ?_
                    refine z_itop (y := (aat 7 (mm 52) (Int32.ofNat k))) (by simp [aput_ne]) ?_
                    refine z_iload 4 dX4_begin_136 rfl ?_
                    refine y_Si [_] _ kX4_53 c_bit dX4_begin_138 rfl rfl (Nat.le_of_ble_eq_true rfl) (Nat.le_of_ble_eq_true rfl) ⟨Nat.zero_le _, Nat.zero_le _⟩ ?_
                    refine z_ior dX4_begin_141 ?_
                    refine y_S0 [_, _, _] _ kX4_32 (c_put (q := 52) (n := 7) rfl (by decide)) dX4_begin_142 rfl rfl (Nat.le_of_ble_eq_true rfl) (Nat.le_of_ble_eq_true rfl) ⟨Nat.zero_le _, Nat.zero_le _⟩ ?_
                    obtain ⟨v_20, e_20⟩ : ∃ y : Int32, y = (Int32.ofNat j) + 1 := ⟨_, rfl⟩
                    refine z_iinc (lv' := [(4, .int v_20), (0, .ref 50), (1, .ref 7), (2, .ref 3), (3, .int (Int32.ofNat k))]) 4 v_20 dX4_begin_145 rfl (by rw [e_20]; rfl) (Nat.le_of_ble_eq_true rfl) rfl ?_
                    refine z_goto 57 dX4_begin_148 (by decide) ?_
                    obtain rfl : v_20 = Int32.ofNat (j + 1) := e_20.trans (nat_succ j)
                    refine z_sub [1,2,3,4,0] rfl ?_
                    exact ih57 (j + 1) _ (by omega) (by simpa [aput_ne] using hCm) (hr.trans (congrArg (fun z => sfold (sbgo C) n (k + 1) (sfold (sbgi C k) q (j + 1) z)) (by simp [sbgi, sbgb, aput_ne, c_16, c_17, c_18])))
                · refine z_aload_n 0 dX4_begin_81 rfl rfl ?_
                  refine y_getR fX4_9 dX4_begin_82 rfl rfl ?_
                  refine z_iload_n 3 dX4_begin_85 rfl rfl ?_
                  refine z_aload_n 0 dX4_begin_86 rfl rfl ?_
                  refine y_getR fX4_9 dX4_begin_87 rfl rfl ?_
                  refine z_iload_n 3 dX4_begin_90 rfl rfl ?_
                  refine y_Si [_, _] _ kX4_45 (c_at (q := 51) (n := 7) rfl (by decide)) dX4_begin_91 rfl rfl (Nat.le_of_ble_eq_true rfl) (Nat.le_of_ble_eq_true rfl) ⟨Nat.zero_le _, Nat.zero_le _⟩ ?_
                  refine z_iload 4 dX4_begin_94 rfl ?_
                  refine y_Si [_] _ kX4_53 c_bit dX4_begin_96 rfl rfl (Nat.le_of_ble_eq_true rfl) (Nat.le_of_ble_eq_true rfl) ⟨Nat.zero_le _, Nat.zero_le _⟩ ?_
                  refine z_ior dX4_begin_99 ?_
                  refine y_S0 [_, _, _] _ kX4_32 (c_put (q := 51) (n := 7) rfl (by decide)) dX4_begin_100 rfl rfl (Nat.le_of_ble_eq_true rfl) (Nat.le_of_ble_eq_true rfl) ⟨Nat.zero_le _, Nat.zero_le _⟩ ?_
                  refine z_aload_n 1 dX4_begin_103 rfl rfl ?_
                  refine y_getR fX4_57 dX4_begin_104 isPar7.1 rfl ?_
                  refine z_iload_n 3 dX4_begin_107 rfl rfl ?_
                  refine y_Si [_, _] _ kX4_45 (c_at (q := (7 + 4)) (n := 7) isPar7.2.2.2.2.1 (by decide)) dX4_begin_108 rfl rfl (Nat.le_of_ble_eq_true rfl) (Nat.le_of_ble_eq_true rfl) ⟨Nat.zero_le _, Nat.zero_le _⟩ ?_
                  refine z_itop (y := (aat 7 (mm 11) (Int32.ofNat k))) (by simp [aput_ne]) ?_
                  refine z_aload_n 1 dX4_begin_111 rfl rfl ?_
                  refine y_getR fX4_57 dX4_begin_112 isPar7.1 rfl ?_
                  refine z_iload 4 dX4_begin_115 rfl ?_
                  refine y_Si [_, _] _ kX4_45 (c_at (q := (7 + 4)) (n := 7) isPar7.2.2.2.2.1 (by decide)) dX4_begin_117 rfl rfl (Nat.le_of_ble_eq_true rfl) (Nat.le_of_ble_eq_true rfl) ⟨Nat.zero_le _, Nat.zero_le _⟩ ?_
                  refine z_itop (y := (aat 7 (mm 11) (Int32.ofNat j))) (by simp [aput_ne]) ?_
                  refine z_icmp_ne 145 dX4_begin_120 (by decide) (fun c_21 => ?_) (fun c_21 => ?_)
                  · obtain ⟨v_22, e_22⟩ : ∃ y : Int32, y = (Int32.ofNat j) + 1 := ⟨_, rfl⟩
                    refine z_iinc (lv' := [(4, .int v_22), (0, .ref 50), (1, .ref 7), (2, .ref 3), (3, .int (Int32.ofNat k))]) 4 v_22 dX4_begin_145 rfl (by rw [e_22]; rfl) (Nat.le_of_ble_eq_true rfl) rfl ?_
                    refine z_goto 57 dX4_begin_148 (by decide) ?_
                    obtain rfl : v_22 = Int32.ofNat (j + 1) := e_22.trans (nat_succ j)
                    refine z_sub [1,2,3,4,0] rfl ?_
                    exact ih57 (j + 1) _ (by omega) (by simpa [aput_ne] using hCm) (hr.trans (congrArg (fun z => sfold (sbgo C) n (k + 1) (sfold (sbgi C k) q (j + 1) z)) (by simp [sbgi, sbgb, aput_ne, c_16, c_17, c_21])))
                  · refine z_aload_n 0 dX4_begin_123 rfl rfl ?_
                    refine y_getR fX4_15 dX4_begin_124 rfl rfl ?_
                    refine z_iload_n 3 dX4_begin_127 rfl rfl ?_
                    refine z_aload_n 0 dX4_begin_128 rfl rfl ?_
                    refine y_getR fX4_15 dX4_begin_129 rfl rfl ?_
                    refine z_iload_n 3 dX4_begin_132 rfl rfl ?_
                    refine y_Si [_, _] _ kX4_45 (c_at (q := 52) (n := 7) rfl (by decide)) dX4_begin_133 rfl rfl (Nat.le_of_ble_eq_true rfl) (Nat.le_of_ble_eq_true rfl) ⟨Nat.zero_le _, Nat.zero_le _⟩ ?_
                    refine z_itop (y := (aat 7 (mm 52) (Int32.ofNat k))) (by simp [aput_ne]) ?_
                    refine z_iload 4 dX4_begin_136 rfl ?_
                    refine y_Si [_] _ kX4_53 c_bit dX4_begin_138 rfl rfl (Nat.le_of_ble_eq_true rfl) (Nat.le_of_ble_eq_true rfl) ⟨Nat.zero_le _, Nat.zero_le _⟩ ?_
                    refine z_ior dX4_begin_141 ?_
                    refine y_S0 [_, _, _] _ kX4_32 (c_put (q := 52) (n := 7) rfl (by decide)) dX4_begin_142 rfl rfl (Nat.le_of_ble_eq_true rfl) (Nat.le_of_ble_eq_true rfl) ⟨Nat.zero_le _, Nat.zero_le _⟩ ?_
                    obtain ⟨v_23, e_23⟩ : ∃ y : Int32, y = (Int32.ofNat j) + 1 := ⟨_, rfl⟩
                    refine z_iinc (lv' := [(4, .int v_23), (0, .ref 50), (1, .ref 7), (2, .ref 3), (3, .int (Int32.ofNat k))]) 4 v_23 dX4_begin_145 rfl (by rw [e_23]; rfl) (Nat.le_of_ble_eq_true rfl) rfl ?_
                    refine z_goto 57 dX4_begin_148 (by decide) ?_
                    obtain rfl : v_23 = Int32.ofNat (j + 1) := e_23.trans (nat_succ j)
                    refine z_sub [1,2,3,4,0] rfl ?_
                    exact ih57 (j + 1) _ (by omega) (by simpa [aput_ne] using hCm) (hr.trans (congrArg (fun z => sfold (sbgo C) n (k + 1) (sfold (sbgi C k) q (j + 1) z)) (by simp [sbgi, sbgb, aput_ne, c_16, c_17, c_21])))
          refine z_sub [1,2,3,4,0] rfl ?_
          exact loop57 (7) 0 _ (by omega) (by simpa [aput_ne] using hCm) (hr.trans (congrArg (fun z => sfold (sbgo C) n (k + 1) (sfold (sbgi C k) 7 0 z)) (by simp [sbg0, c_2, c_3])))
  refine z_sub [1,2,3,0] rfl ?_
  exact loop2 (7) 0 _ (by omega) hC rfl
set_option maxRecDepth 100000 in
set_option maxHeartbeats 4000000 in
theorem c_off {m : zmem} {o d : Int32} : Ei MX4_offends 1 [.ref 50, .int o, .int d] m (soff m o d) (m) := by
  refine Ei.of (by decide) (Nat.le_of_ble_eq_true rfl) ?_
  show Z _ 0 [(0, .ref 50), (1, .int o), (2, .int d)] _ _ _ _
  refine z_aload_n 0 dX4_offends_0 rfl rfl ?_
  refine y_getR fX4_9 dX4_offends_1 rfl rfl ?_
  refine z_iload_n 2 dX4_offends_4 rfl rfl ?_
  refine y_Si [_, _] _ kX4_45 (c_at (q := 51) (n := 7) rfl (by decide)) dX4_offends_5 rfl rfl (Nat.le_of_ble_eq_true rfl) (Nat.le_of_ble_eq_true rfl) ⟨Nat.zero_le _, Nat.zero_le _⟩ ?_
  refine z_iload_n 1 dX4_offends_8 rfl rfl ?_
  refine y_Si [_, _] _ kX4_60 c_has dX4_offends_9 rfl rfl (Nat.le_of_ble_eq_true rfl) (Nat.le_of_ble_eq_true rfl) ⟨Nat.zero_le _, Nat.zero_le _⟩ ?_
  refine z_if_eq 38 dX4_offends_12 (by decide) (fun c_1 => ?_) (fun c_1 => ?_)
  · refine z_iconst 0 dX4_offends_38 (by decide) ?_
    exact y_zret dX4_offends_39 rfl (by simp) (by simp [soff, c_1]) rfl
  · refine z_aload_n 0 dX4_offends_15 rfl rfl ?_
    refine y_getR fX4_18 dX4_offends_16 rfl rfl ?_
    refine z_iload_n 1 dX4_offends_19 rfl rfl ?_
    refine y_Si [_, _] _ kX4_45 (c_at (q := 53) (n := 7) rfl (by decide)) dX4_offends_20 rfl rfl (Nat.le_of_ble_eq_true rfl) (Nat.le_of_ble_eq_true rfl) ⟨Nat.zero_le _, Nat.zero_le _⟩ ?_
    refine z_aload_n 0 dX4_offends_23 rfl rfl ?_
    refine y_getR fX4_18 dX4_offends_24 rfl rfl ?_
    refine z_iload_n 2 dX4_offends_27 rfl rfl ?_
    refine y_Si [_, _] _ kX4_45 (c_at (q := 53) (n := 7) rfl (by decide)) dX4_offends_28 rfl rfl (Nat.le_of_ble_eq_true rfl) (Nat.le_of_ble_eq_true rfl) ⟨Nat.zero_le _, Nat.zero_le _⟩ ?_
    refine z_icmp_ge 38 dX4_offends_31 (by decide) (fun c_2 => ?_) (fun c_2 => ?_)
    · refine z_iconst 0 dX4_offends_38 (by decide) ?_
      exact y_zret dX4_offends_39 rfl (by simp) (by simp [soff, c_1, c_2]) rfl
    · refine z_iconst 1 dX4_offends_34 (by decide) ?_
      refine z_goto 39 dX4_offends_35 (by decide) ?_
      exact y_zret dX4_offends_39 rfl (by simp) (by simp [soff, c_1, c_2]) rfl
set_option maxRecDepth 100000 in
set_option maxHeartbeats 4000000 in
theorem c_whoOff {m : zmem} {d : Int32} : Ei MX4_whoOffends 2 [.ref 50, .int d] m (swoff m d) (m) := by
  refine Ei.of (by decide) (Nat.le_of_ble_eq_true rfl) ?_
  show Z _ 0 [(0, .ref 50), (1, .int d)] _ _ _ _
  refine z_iconst 0 dX4_whoOffends_0 (by decide) ?_
  refine z_istore_n (lv' := [(2, .int 0), (0, .ref 50), (1, .int d)]) dX4_whoOffends_1 rfl (Nat.le_of_ble_eq_true rfl) rfl ?_
  refine z_iconst 0 dX4_whoOffends_2 (by decide) ?_
  refine z_istore_n (lv' := [(3, .int 0), (2, .int 0), (0, .ref 50), (1, .int d)]) dX4_whoOffends_3 rfl (Nat.le_of_ble_eq_true rfl) rfl ?_
  have loop4 : ∀ (n : Nat) (k : Nat) (s : Int32), k + n = 7 → (swoff m d = sfold (fun k s => if aat 7 (m 53) (Int32.ofNat k) = -1 then s else if soff m (Int32.ofNat k) d = 0 then s else s ||| sbit (Int32.ofNat k)) n k s) → Z (zMB (Qi (swoff m d) (m)) 2 MX4_whoOffends) 4 [(0, .ref 50), (1, .int d), (2, .int s), (3, .int (Int32.ofNat k))] [] (hp m) 0 0 := by
    intro n
    induction n with
    | zero =>
      intro k s hk hr
      refine z_iload_n 3 dX4_whoOffends_4 rfl rfl ?_
      refine z_bipush 7 dX4_whoOffends_5 (by decide) ?_
      refine z_icmp_ge 44 dX4_whoOffends_7 (by decide) (fun c_1 => ?_) (fun c_1 => ?_)
      · refine z_iload_n 2 dX4_whoOffends_44 rfl rfl ?_
        exact y_iret dX4_whoOffends_45 rfl hr.symm rfl
      · exact (dz rfl (b := 7) (N := 7) rfl (by omega) (by omega) c_1).elim
    | succ n ih4 =>
      intro k s hk hr
      refine z_iload_n 3 dX4_whoOffends_4 rfl rfl ?_
      refine z_bipush 7 dX4_whoOffends_5 (by decide) ?_
      refine z_icmp_ge 44 dX4_whoOffends_7 (by decide) (fun c_2 => ?_) (fun c_2 => ?_)
      · exact (ds rfl (b := 7) (N := 7) rfl (by omega) (by omega) c_2).elim
      · refine z_aload_n 0 dX4_whoOffends_10 rfl rfl ?_
        refine y_getR fX4_18 dX4_whoOffends_11 rfl rfl ?_
        refine z_iload_n 3 dX4_whoOffends_14 rfl rfl ?_
        refine y_Si [_, _] _ kX4_45 (c_at (q := 53) (n := 7) rfl (by decide)) dX4_whoOffends_15 rfl rfl (Nat.le_of_ble_eq_true rfl) (Nat.le_of_ble_eq_true rfl) ⟨Nat.zero_le _, Nat.zero_le _⟩ ?_
        refine z_iconst (-1) dX4_whoOffends_18 (by decide) ?_
        refine z_icmp_eq 38 dX4_whoOffends_19 (by decide) (fun c_3 => ?_) (fun c_3 => ?_)
        · obtain ⟨v_4, e_4⟩ : ∃ y : Int32, y = (Int32.ofNat k) + 1 := ⟨_, rfl⟩
          refine z_iinc (lv' := [(3, .int v_4), (0, .ref 50), (1, .int d), (2, .int s)]) 3 v_4 dX4_whoOffends_38 rfl (by rw [e_4]; rfl) (Nat.le_of_ble_eq_true rfl) rfl ?_
          refine z_goto 4 dX4_whoOffends_41 (by decide) ?_
          obtain rfl : v_4 = Int32.ofNat (k + 1) := e_4.trans (nat_succ k)
          refine z_sub [1,2,3,0] rfl ?_
          exact ih4 (k + 1) _ (by omega) (hr.trans (congrArg (sfold _ n (k + 1)) (by subst_vars; simp [c_2, c_3])))
        · refine z_aload_n 0 dX4_whoOffends_22 rfl rfl ?_
          refine z_iload_n 3 dX4_whoOffends_23 rfl rfl ?_
          refine z_iload_n 1 dX4_whoOffends_24 rfl rfl ?_
          refine y_Vi [_, _] _ kX4_64 c_off rfl rfl dX4_whoOffends_25 rfl rfl (Nat.le_of_ble_eq_true rfl) (Nat.le_of_ble_eq_true rfl) ⟨Nat.zero_le _, Nat.zero_le _⟩ ?_
          refine z_if_eq 38 dX4_whoOffends_28 (by decide) (fun c_5 => ?_) (fun c_5 => ?_)
          · obtain ⟨v_6, e_6⟩ : ∃ y : Int32, y = (Int32.ofNat k) + 1 := ⟨_, rfl⟩
            refine z_iinc (lv' := [(3, .int v_6), (0, .ref 50), (1, .int d), (2, .int s)]) 3 v_6 dX4_whoOffends_38 rfl (by rw [e_6]; rfl) (Nat.le_of_ble_eq_true rfl) rfl ?_
            refine z_goto 4 dX4_whoOffends_41 (by decide) ?_
            obtain rfl : v_6 = Int32.ofNat (k + 1) := e_6.trans (nat_succ k)
            refine z_sub [1,2,3,0] rfl ?_
            exact ih4 (k + 1) _ (by omega) (hr.trans (congrArg (sfold _ n (k + 1)) (by subst_vars; simp [c_2, c_3, c_5])))
          · refine z_iload_n 2 dX4_whoOffends_31 rfl rfl ?_
            refine z_iload_n 3 dX4_whoOffends_32 rfl rfl ?_
            refine y_Si [_] _ kX4_53 c_bit dX4_whoOffends_33 rfl rfl (Nat.le_of_ble_eq_true rfl) (Nat.le_of_ble_eq_true rfl) ⟨Nat.zero_le _, Nat.zero_le _⟩ ?_
            refine z_ior dX4_whoOffends_36 ?_
            refine z_topi (fun v_7 e_7 => ?_)
            refine z_istore_n (lv' := [(2, .int v_7), (0, .ref 50), (1, .int d), (3, .int (Int32.ofNat k))]) dX4_whoOffends_37 rfl (Nat.le_of_ble_eq_true rfl) rfl ?_
            obtain ⟨v_8, e_8⟩ : ∃ y : Int32, y = (Int32.ofNat k) + 1 := ⟨_, rfl⟩
            refine z_iinc (lv' := [(3, .int v_8), (2, .int v_7), (0, .ref 50), (1, .int d)]) 3 v_8 dX4_whoOffends_38 rfl (by rw [e_8]; rfl) (Nat.le_of_ble_eq_true rfl) rfl ?_
            refine z_goto 4 dX4_whoOffends_41 (by decide) ?_
            obtain rfl : v_8 = Int32.ofNat (k + 1) := e_8.trans (nat_succ k)
            refine z_sub [2,3,1,0] rfl ?_
            exact ih4 (k + 1) _ (by omega) (hr.trans (congrArg (sfold _ n (k + 1)) (by subst_vars; simp [c_2, c_3, c_5])))
  refine z_sub [2,3,1,0] rfl ?_
  exact loop4 (7) 0 _ (by omega) rfl
set_option maxRecDepth 100000 in
set_option maxHeartbeats 4000000 in
theorem c_qof {m : zmem} {d o : Int32} : Ei MX4_quarrelsOf 2 [.ref 50, .int d, .int o] m (sqof m d o) (m) := by
  refine Ei.of (by decide) (Nat.le_of_ble_eq_true rfl) ?_
  show Z _ 0 [(0, .ref 50), (1, .int d), (2, .int o)] _ _ _ _
  have join23 : ∀ (c1 : Int32), c1 = sqof1 m d o → Z (zMB (Qi (sqof m d o) (m)) 2 MX4_quarrelsOf) 23 [(0, .ref 50), (1, .int d), (2, .int o)] [.int c1] (hp m) 0 0 := by
    intro c1 hs1
    refine z_istore_n (lv' := [(3, .int c1), (0, .ref 50), (1, .int d), (2, .int o)]) dX4_quarrelsOf_23 rfl (Nat.le_of_ble_eq_true rfl) rfl ?_
    have join53 : ∀ (b : Int32), b = sside m d o → Z (zMB (Qi (sqof m d o) (m)) 2 MX4_quarrelsOf) 53 [(0, .ref 50), (1, .int d), (2, .int o), (3, .int c1)] [.int b] (hp m) 0 0 := by
      intro b hs2
      refine z_istore (lv' := [(4, .int b), (0, .ref 50), (1, .int d), (2, .int o), (3, .int c1)]) dX4_quarrelsOf_53 (Nat.le_of_ble_eq_true rfl) rfl ?_
      refine z_aload_n 1 dX4_quarrelsOf_55 rfl rfl ?_
      refine y_getR fX4_15 dX4_quarrelsOf_56 rfl rfl ?_
      refine z_iload_n 2 dX4_quarrelsOf_59 rfl rfl ?_
      refine y_Si [_, _] _ kX4_45 (c_at (q := 52) (n := 7) rfl (by decide)) dX4_quarrelsOf_60 rfl rfl (Nat.le_of_ble_eq_true rfl) (Nat.le_of_ble_eq_true rfl) ⟨Nat.zero_le _, Nat.zero_le _⟩ ?_
      refine z_iload_n 3 dX4_quarrelsOf_63 rfl rfl ?_
      refine y_Si [_, _] _ kX4_60 c_has dX4_quarrelsOf_64 rfl rfl (Nat.le_of_ble_eq_true rfl) (Nat.le_of_ble_eq_true rfl) ⟨Nat.zero_le _, Nat.zero_le _⟩ ?_
      refine z_if_eq 81 dX4_quarrelsOf_67 (by decide) (fun c_1 => ?_) (fun c_1 => ?_)
      · refine z_iload_n 4 dX4_quarrelsOf_81 rfl rfl ?_
        exact y_iret dX4_quarrelsOf_82 rfl (by simp [sqof, ← hs1, ← hs2, c_1]) rfl
      · refine z_iload 0 dX4_quarrelsOf_70 rfl ?_
        refine z_if_ne 81 dX4_quarrelsOf_72 (by decide) (fun c_2 => ?_) (fun c_2 => ?_)
        · refine z_iload_n 4 dX4_quarrelsOf_81 rfl rfl ?_
          exact y_iret dX4_quarrelsOf_82 rfl (by simp [sqof, ← hs1, ← hs2, c_1, c_2]) rfl
        · refine z_iload_n 4 dX4_quarrelsOf_75 rfl rfl ?_
          refine z_iconst 1 dX4_quarrelsOf_76 (by decide) ?_
          refine z_iadd dX4_quarrelsOf_77 ?_
          refine z_goto 82 dX4_quarrelsOf_78 (by decide) ?_
          exact y_iret dX4_quarrelsOf_82 rfl (by simp [sqof, ← hs1, ← hs2, c_1, c_2]) rfl
    refine z_aload_n 1 dX4_quarrelsOf_24 rfl rfl ?_
    refine y_getR fX4_18 dX4_quarrelsOf_25 rfl rfl ?_
    refine z_iload_n 2 dX4_quarrelsOf_28 rfl rfl ?_
    refine y_Si [_, _] _ kX4_45 (c_at (q := 53) (n := 7) rfl (by decide)) dX4_quarrelsOf_29 rfl rfl (Nat.le_of_ble_eq_true rfl) (Nat.le_of_ble_eq_true rfl) ⟨Nat.zero_le _, Nat.zero_le _⟩ ?_
    refine z_aload_n 1 dX4_quarrelsOf_32 rfl rfl ?_
    refine y_getR fX4_18 dX4_quarrelsOf_33 rfl rfl ?_
    refine z_iload_n 3 dX4_quarrelsOf_36 rfl rfl ?_
    refine y_Si [_, _] _ kX4_45 (c_at (q := 53) (n := 7) rfl (by decide)) dX4_quarrelsOf_37 rfl rfl (Nat.le_of_ble_eq_true rfl) (Nat.le_of_ble_eq_true rfl) ⟨Nat.zero_le _, Nat.zero_le _⟩ ?_
    refine z_isub dX4_quarrelsOf_40 ?_
    refine z_mabs lX4_67 zh_abs zh_mi zh_absc dX4_quarrelsOf_41 (Nat.le_of_ble_eq_true rfl) (Nat.le_of_ble_eq_true rfl) (Nat.zero_le _) (Nat.zero_le _) ?_
    refine z_itop (y := (sabs (aat 7 (m 53) d - aat 7 (m 53) o))) rfl ?_
    refine z_iconst 1 dX4_quarrelsOf_44 (by decide) ?_
    refine z_icmp_ne 52 dX4_quarrelsOf_45 (by decide) (fun c_3 => ?_) (fun c_3 => ?_)
    · refine z_iconst 0 dX4_quarrelsOf_52 (by decide) ?_
      refine z_sub [1,2,3,0] rfl ?_
      exact join53 _ (by simp [sside, c_3])
    · refine z_iconst 1 dX4_quarrelsOf_48 (by decide) ?_
      refine z_goto 53 dX4_quarrelsOf_49 (by decide) ?_
      refine z_sub [1,2,3,0] rfl ?_
      exact join53 _ (by simp [sside, c_3])
  refine z_aload_n 0 dX4_quarrelsOf_0 rfl rfl ?_
  refine z_iload_n 2 dX4_quarrelsOf_1 rfl rfl ?_
  refine z_iload_n 1 dX4_quarrelsOf_2 rfl rfl ?_
  refine y_Vi [_, _] _ kX4_64 c_off rfl rfl dX4_quarrelsOf_3 rfl rfl (Nat.le_of_ble_eq_true rfl) (Nat.le_of_ble_eq_true rfl) ⟨Nat.zero_le _, Nat.zero_le _⟩ ?_
  refine z_if_ne 18 dX4_quarrelsOf_6 (by decide) (fun c_4 => ?_) (fun c_4 => ?_)
  · refine z_iconst 1 dX4_quarrelsOf_18 (by decide) ?_
    refine z_goto 23 dX4_quarrelsOf_19 (by decide) ?_
    refine z_sub [0,1,2] rfl ?_
    exact join23 _ (by simp [sqof1, c_4])
  · refine z_aload_n 0 dX4_quarrelsOf_9 rfl rfl ?_
    refine z_iload_n 1 dX4_quarrelsOf_10 rfl rfl ?_
    refine z_iload_n 2 dX4_quarrelsOf_11 rfl rfl ?_
    refine y_Vi [_, _] _ kX4_64 c_off rfl rfl dX4_quarrelsOf_12 rfl rfl (Nat.le_of_ble_eq_true rfl) (Nat.le_of_ble_eq_true rfl) ⟨Nat.zero_le _, Nat.zero_le _⟩ ?_
    refine z_if_eq 22 dX4_quarrelsOf_15 (by decide) (fun c_5 => ?_) (fun c_5 => ?_)
    · refine z_iconst 0 dX4_quarrelsOf_22 (by decide) ?_
      refine z_sub [0,1,2] rfl ?_
      exact join23 _ (by simp [sqof1, c_4, c_5])
    · refine z_iconst 1 dX4_quarrelsOf_18 (by decide) ?_
      refine z_goto 23 dX4_quarrelsOf_19 (by decide) ?_
      refine z_sub [0,1,2] rfl ?_
      exact join23 _ (by simp [sqof1, c_4, c_5])
set_option maxRecDepth 100000 in
set_option maxHeartbeats 4000000 in
theorem c_qam {m : zmem} {d : Int32} {A : Nat} (hA : A ≤ 7) : Ei MX4_quarrelsAmong 3 [.ref 50, .int d, .int (Int32.ofNat A)] m (sqam m d A) (m) := by
  refine Ei.of (by decide) (Nat.le_of_ble_eq_true rfl) ?_
  show Z _ 0 [(0, .ref 50), (1, .int d), (2, .int (Int32.ofNat A))] _ _ _ _
  refine z_iconst 0 dX4_quarrelsAmong_0 (by decide) ?_
  refine z_istore_n (lv' := [(3, .int 0), (0, .ref 50), (1, .int d), (2, .int (Int32.ofNat A))]) dX4_quarrelsAmong_1 rfl (Nat.le_of_ble_eq_true rfl) rfl ?_
  refine z_iconst 0 dX4_quarrelsAmong_2 (by decide) ?_
  refine z_istore (lv' := [(4, .int 0), (3, .int 0), (0, .ref 50), (1, .int d), (2, .int (Int32.ofNat A))]) dX4_quarrelsAmong_3 (Nat.le_of_ble_eq_true rfl) rfl ?_
  have loop5 : ∀ (n : Nat) (k : Nat) (s : Int32), k + n = A → (sqam m d A = sfold (fun k s => if Int32.ofNat k = d then s else if aat 7 (m 53) (Int32.ofNat k) = -1 then s else s + sqof m d (Int32.ofNat k)) n k s) → Z (zMB (Qi (sqam m d A) (m)) 3 MX4_quarrelsAmong) 5 [(0, .ref 50), (1, .int d), (2, .int (Int32.ofNat A)), (3, .int s), (4, .int (Int32.ofNat k))] [] (hp m) 0 0 := by
    intro n
    induction n with
    | zero =>
      intro k s hk hr
      refine z_iload 4 dX4_quarrelsAmong_5 rfl ?_
      refine z_iload_n 2 dX4_quarrelsAmong_7 rfl rfl ?_
      refine z_icmp_ge 46 dX4_quarrelsAmong_8 (by decide) (fun c_1 => ?_) (fun c_1 => ?_)
      · refine z_iload_n 3 dX4_quarrelsAmong_46 rfl rfl ?_
        exact y_iret dX4_quarrelsAmong_47 rfl hr.symm rfl
      · exact (dz rfl (b := Int32.ofNat A) rfl (by omega) (by omega) c_1).elim
    | succ n ih5 =>
      intro k s hk hr
      refine z_iload 4 dX4_quarrelsAmong_5 rfl ?_
      refine z_iload_n 2 dX4_quarrelsAmong_7 rfl rfl ?_
      refine z_icmp_ge 46 dX4_quarrelsAmong_8 (by decide) (fun c_2 => ?_) (fun c_2 => ?_)
      · exact (ds rfl (b := Int32.ofNat A) rfl (by omega) (by omega) c_2).elim
      · refine z_iload 4 dX4_quarrelsAmong_11 rfl ?_
        refine z_iload_n 1 dX4_quarrelsAmong_13 rfl rfl ?_
        refine z_icmp_eq 40 dX4_quarrelsAmong_14 (by decide) (fun c_3 => ?_) (fun c_3 => ?_)
        · obtain ⟨v_4, e_4⟩ : ∃ y : Int32, y = (Int32.ofNat k) + 1 := ⟨_, rfl⟩
          refine z_iinc (lv' := [(4, .int v_4), (0, .ref 50), (1, .int d), (2, .int (Int32.ofNat A)), (3, .int s)]) 4 v_4 dX4_quarrelsAmong_40 rfl (by rw [e_4]; rfl) (Nat.le_of_ble_eq_true rfl) rfl ?_
          refine z_goto 5 dX4_quarrelsAmong_43 (by decide) ?_
          obtain rfl : v_4 = Int32.ofNat (k + 1) := e_4.trans (nat_succ k)
          refine z_sub [1,2,3,4,0] rfl ?_
          exact ih5 (k + 1) _ (by omega) (hr.trans (congrArg (sfold _ n (k + 1)) (by simp [c_2, c_3])))
        · refine z_aload_n 0 dX4_quarrelsAmong_17 rfl rfl ?_
          refine y_getR fX4_18 dX4_quarrelsAmong_18 rfl rfl ?_
          refine z_iload 4 dX4_quarrelsAmong_21 rfl ?_
          refine y_Si [_, _] _ kX4_45 (c_at (q := 53) (n := 7) rfl (by decide)) dX4_quarrelsAmong_23 rfl rfl (Nat.le_of_ble_eq_true rfl) (Nat.le_of_ble_eq_true rfl) ⟨Nat.zero_le _, Nat.zero_le _⟩ ?_
          refine z_iconst (-1) dX4_quarrelsAmong_26 (by decide) ?_
          refine z_icmp_eq 40 dX4_quarrelsAmong_27 (by decide) (fun c_5 => ?_) (fun c_5 => ?_)
          · obtain ⟨v_6, e_6⟩ : ∃ y : Int32, y = (Int32.ofNat k) + 1 := ⟨_, rfl⟩
            refine z_iinc (lv' := [(4, .int v_6), (0, .ref 50), (1, .int d), (2, .int (Int32.ofNat A)), (3, .int s)]) 4 v_6 dX4_quarrelsAmong_40 rfl (by rw [e_6]; rfl) (Nat.le_of_ble_eq_true rfl) rfl ?_
            refine z_goto 5 dX4_quarrelsAmong_43 (by decide) ?_
            obtain rfl : v_6 = Int32.ofNat (k + 1) := e_6.trans (nat_succ k)
            refine z_sub [1,2,3,4,0] rfl ?_
            exact ih5 (k + 1) _ (by omega) (hr.trans (congrArg (sfold _ n (k + 1)) (by simp [c_2, c_3, c_5])))
          · refine z_iload_n 3 dX4_quarrelsAmong_30 rfl rfl ?_
            refine z_aload_n 0 dX4_quarrelsAmong_31 rfl rfl ?_
            refine z_iload_n 1 dX4_quarrelsAmong_32 rfl rfl ?_
            refine z_iload 4 dX4_quarrelsAmong_33 rfl ?_
            refine y_Vi [_, _] _ kX4_72 c_qof rfl rfl dX4_quarrelsAmong_35 rfl rfl (Nat.le_of_ble_eq_true rfl) (Nat.le_of_ble_eq_true rfl) ⟨Nat.zero_le _, Nat.zero_le _⟩ ?_
            refine z_iadd dX4_quarrelsAmong_38 ?_
            refine z_topi (fun v_7 e_7 => ?_)
            refine z_istore_n (lv' := [(3, .int v_7), (0, .ref 50), (1, .int d), (2, .int (Int32.ofNat A)), (4, .int (Int32.ofNat k))]) dX4_quarrelsAmong_39 rfl (Nat.le_of_ble_eq_true rfl) rfl ?_
            obtain ⟨v_8, e_8⟩ : ∃ y : Int32, y = (Int32.ofNat k) + 1 := ⟨_, rfl⟩
            refine z_iinc (lv' := [(4, .int v_8), (3, .int v_7), (0, .ref 50), (1, .int d), (2, .int (Int32.ofNat A))]) 4 v_8 dX4_quarrelsAmong_40 rfl (by rw [e_8]; rfl) (Nat.le_of_ble_eq_true rfl) rfl ?_
            refine z_goto 5 dX4_quarrelsAmong_43 (by decide) ?_
            obtain rfl : v_8 = Int32.ofNat (k + 1) := e_8.trans (nat_succ k)
            refine z_sub [2,3,4,1,0] rfl ?_
            exact ih5 (k + 1) _ (by omega) (hr.trans (congrArg (sfold _ n (k + 1)) (by simp [c_2, c_3, c_5, e_7])))
  refine z_sub [2,3,4,1,0] rfl ?_
  exact loop5 (A) 0 _ (by omega) rfl
set_option maxRecDepth 100000 in
set_option maxHeartbeats 4000000 in
theorem c_qnow {m : zmem} : Ei MX4_quarrelsNow 4 [.ref 50] m (sqnow m) (m) := by
  refine Ei.of (by decide) (Nat.le_of_ble_eq_true rfl) ?_
  show Z _ 0 [(0, .ref 50)] _ _ _ _
  refine z_iconst 0 dX4_quarrelsNow_0 (by decide) ?_
  refine z_istore_n (lv' := [(1, .int 0), (0, .ref 50)]) dX4_quarrelsNow_1 rfl (Nat.le_of_ble_eq_true rfl) rfl ?_
  refine z_iconst 0 dX4_quarrelsNow_2 (by decide) ?_
  refine z_istore_n (lv' := [(2, .int 0), (1, .int 0), (0, .ref 50)]) dX4_quarrelsNow_3 rfl (Nat.le_of_ble_eq_true rfl) rfl ?_
  have loop4 : ∀ (n : Nat) (k : Nat) (s : Int32), k + n = 7 → (sqnow m = sfold (fun k s => if aat 7 (m 53) (Int32.ofNat k) = -1 then s else s + sqam m (Int32.ofNat k) k) n k s) → Z (zMB (Qi (sqnow m) (m)) 4 MX4_quarrelsNow) 4 [(0, .ref 50), (1, .int s), (2, .int (Int32.ofNat k))] [] (hp m) 0 0 := by
    intro n
    induction n with
    | zero =>
      intro k s hk hr
      refine z_iload_n 2 dX4_quarrelsNow_4 rfl rfl ?_
      refine z_bipush 7 dX4_quarrelsNow_5 (by decide) ?_
      refine z_icmp_ge 37 dX4_quarrelsNow_7 (by decide) (fun c_1 => ?_) (fun c_1 => ?_)
      · refine z_iload_n 1 dX4_quarrelsNow_37 rfl rfl ?_
        exact y_iret dX4_quarrelsNow_38 rfl hr.symm rfl
      · exact (dz rfl (b := 7) (N := 7) rfl (by omega) (by omega) c_1).elim
    | succ n ih4 =>
      intro k s hk hr
      refine z_iload_n 2 dX4_quarrelsNow_4 rfl rfl ?_
      refine z_bipush 7 dX4_quarrelsNow_5 (by decide) ?_
      refine z_icmp_ge 37 dX4_quarrelsNow_7 (by decide) (fun c_2 => ?_) (fun c_2 => ?_)
      · exact (ds rfl (b := 7) (N := 7) rfl (by omega) (by omega) c_2).elim
      · refine z_aload_n 0 dX4_quarrelsNow_10 rfl rfl ?_
        refine y_getR fX4_18 dX4_quarrelsNow_11 rfl rfl ?_
        refine z_iload_n 2 dX4_quarrelsNow_14 rfl rfl ?_
        refine y_Si [_, _] _ kX4_45 (c_at (q := 53) (n := 7) rfl (by decide)) dX4_quarrelsNow_15 rfl rfl (Nat.le_of_ble_eq_true rfl) (Nat.le_of_ble_eq_true rfl) ⟨Nat.zero_le _, Nat.zero_le _⟩ ?_
        refine z_iconst (-1) dX4_quarrelsNow_18 (by decide) ?_
        refine z_icmp_eq 31 dX4_quarrelsNow_19 (by decide) (fun c_3 => ?_) (fun c_3 => ?_)
        · obtain ⟨v_4, e_4⟩ : ∃ y : Int32, y = (Int32.ofNat k) + 1 := ⟨_, rfl⟩
          refine z_iinc (lv' := [(2, .int v_4), (0, .ref 50), (1, .int s)]) 2 v_4 dX4_quarrelsNow_31 rfl (by rw [e_4]; rfl) (Nat.le_of_ble_eq_true rfl) rfl ?_
          refine z_goto 4 dX4_quarrelsNow_34 (by decide) ?_
          obtain rfl : v_4 = Int32.ofNat (k + 1) := e_4.trans (nat_succ k)
          refine z_sub [1,2,0] rfl ?_
          exact ih4 (k + 1) _ (by omega) (hr.trans (congrArg (sfold _ n (k + 1)) (by subst_vars; simp [c_2, c_3])))
        · refine z_iload_n 1 dX4_quarrelsNow_22 rfl rfl ?_
          refine z_aload_n 0 dX4_quarrelsNow_23 rfl rfl ?_
          refine z_iload_n 2 dX4_quarrelsNow_24 rfl rfl ?_
          refine z_iload_n 2 dX4_quarrelsNow_25 rfl rfl ?_
          refine y_Vi [_, _] _ kX4_76 (c_qam (A := k) (by omega)) rfl rfl dX4_quarrelsNow_26 rfl rfl (Nat.le_of_ble_eq_true rfl) (Nat.le_of_ble_eq_true rfl) ⟨Nat.zero_le _, Nat.zero_le _⟩ ?_
          refine z_iadd dX4_quarrelsNow_29 ?_
          refine z_topi (fun v_5 e_5 => ?_)
          refine z_istore_n (lv' := [(1, .int v_5), (0, .ref 50), (2, .int (Int32.ofNat k))]) dX4_quarrelsNow_30 rfl (Nat.le_of_ble_eq_true rfl) rfl ?_
          obtain ⟨v_6, e_6⟩ : ∃ y : Int32, y = (Int32.ofNat k) + 1 := ⟨_, rfl⟩
          refine z_iinc (lv' := [(2, .int v_6), (1, .int v_5), (0, .ref 50)]) 2 v_6 dX4_quarrelsNow_31 rfl (by rw [e_6]; rfl) (Nat.le_of_ble_eq_true rfl) rfl ?_
          refine z_goto 4 dX4_quarrelsNow_34 (by decide) ?_
          obtain rfl : v_6 = Int32.ofNat (k + 1) := e_6.trans (nat_succ k)
          refine z_sub [2,1,0] rfl ?_
          exact ih4 (k + 1) _ (by omega) (hr.trans (congrArg (sfold _ n (k + 1)) (by subst_vars; simp [c_2, c_3])))
  refine z_sub [2,1,0] rfl ?_
  exact loop4 (7) 0 _ (by omega) rfl
theorem nat_lt7 {d : Nat} (h : d < 7) : Int32.ofNat d < 7 := by
  rw [Int32.lt_iff_toInt_lt, nat_toInt (by omega)]
  show (d : Int) < 7
  omega
set_option maxRecDepth 100000 in
set_option maxHeartbeats 4000000 in
theorem c_search0 {m : zmem} {lf fr q : Int32} : E0 MX4_search 4 [.ref 50, .int (Int32.ofNat 7), .int lf, .int fr, .int q] m (sserch 0 7 lf fr q m) := by
  refine E0.of (by decide) (Nat.le_of_ble_eq_true rfl) ?_
  show Z _ 0 [(0, .ref 50), (1, .int (Int32.ofNat 7)), (2, .int lf), (3, .int fr), (4, .int q)] _ _ _ _
  have join17 : ¬ (¬ m 50 5 = 0 ∧ ¬ q < m 50 4) → Z (zMB (Q0 (sserch 0 7 lf fr q m)) 4 MX4_search) 17 [(0, .ref 50), (1, .int (Int32.ofNat 7)), (2, .int lf), (3, .int fr), (4, .int q)] [] (hp m) 0 0 := by
    intro hj
    refine z_iload_n 1 dX4_search_17 rfl rfl ?_
    refine z_bipush 7 dX4_search_18 (by decide) ?_
    refine z_icmp_lt 46 dX4_search_20 (by decide) (fun c_1 => ?_) (fun c_1 => ?_)
    · exact absurd c_1 (by decide)
    · refine z_aload_n 0 dX4_search_23 rfl rfl ?_
      refine z_iconst 1 dX4_search_24 (by decide) ?_
      refine y_putZ (by decide) fX4_28 dX4_search_25 rfl rfl ?_
      refine z_aload_n 0 dX4_search_28 rfl rfl ?_
      refine z_iload 4 dX4_search_29 rfl ?_
      refine y_putI fX4_24 dX4_search_31 rfl rfl ?_
      refine z_aload_n 0 dX4_search_34 rfl rfl ?_
      refine y_getR fX4_18 dX4_search_35 rfl rfl ?_
      refine z_aload_n 0 dX4_search_38 rfl rfl ?_
      refine y_getR fX4_21 dX4_search_39 rfl rfl ?_
      refine y_S0 [_, _] _ kX4_92 (c_copyRow (q := 53) (nq := 7) (p := 54) (np := 7) rfl (by decide) rfl (by decide)) dX4_search_42 rfl rfl (Nat.le_of_ble_eq_true rfl) (Nat.le_of_ble_eq_true rfl) ⟨Nat.zero_le _, Nat.zero_le _⟩ ?_
      exact y_vret dX4_search_45 rfl (by first | (rw [sserch, if_neg hj]; rfl) | simp [sserch, c_1])
  refine z_aload_n 0 dX4_search_0 rfl rfl ?_
  refine y_getI fX4_28 dX4_search_1 rfl rfl ?_
  refine z_if_eq 17 dX4_search_4 (by decide) (fun c_2 => ?_) (fun c_2 => ?_)
  · refine z_sub [0,1,2,3,4] rfl ?_
    exact join17 (by simp [c_2])
  · refine z_iload 4 dX4_search_7 rfl ?_
    refine z_aload_n 0 dX4_search_9 rfl rfl ?_
    refine y_getI fX4_24 dX4_search_10 rfl rfl ?_
    refine z_icmp_lt 17 dX4_search_13 (by decide) (fun c_3 => ?_) (fun c_3 => ?_)
    · refine z_sub [0,1,2,3,4] rfl ?_
      exact join17 (by simp [c_2, c_3])
    · exact y_vret dX4_search_16 rfl (by first | (rw [sserch, if_neg hj]; rfl) | simp [sserch, c_2, c_3])
set_option maxRecDepth 100000 in
set_option maxHeartbeats 4000000 in
theorem c_searchS {m : zmem} {e d : Nat} {lf fr q : Int32} (hd : d + (e + 1) = 7) (ih : ∀ (lf fr q : Int32) (m : zmem), E0 MX4_search (e + 4) [.ref 50, .int (Int32.ofNat (d + 1)), .int lf, .int fr, .int q] m (sserch e (d + 1) lf fr q m)) : E0 MX4_search (e + 1 + 4) [.ref 50, .int (Int32.ofNat d), .int lf, .int fr, .int q] m (sserch (e + 1) d lf fr q m) := by
  refine E0.of (by decide) (Nat.le_of_ble_eq_true rfl) ?_
  show Z _ 0 [(0, .ref 50), (1, .int (Int32.ofNat d)), (2, .int lf), (3, .int fr), (4, .int q)] _ _ _ _
  have join17 : ¬ (¬ m 50 5 = 0 ∧ ¬ q < m 50 4) → Z (zMB (Q0 (sserch (e + 1) d lf fr q m)) (e + 1 + 4) MX4_search) 17 [(0, .ref 50), (1, .int (Int32.ofNat d)), (2, .int lf), (3, .int fr), (4, .int q)] [] (hp m) 0 0 := by
    intro hj
    refine z_iload_n 1 dX4_search_17 rfl rfl ?_
    refine z_bipush 7 dX4_search_18 (by decide) ?_
    refine z_icmp_lt 46 dX4_search_20 (by decide) (fun c_1 => ?_) (fun c_1 => ?_)
    · refine z_iload_n 2 dX4_search_46 rfl rfl ?_
      refine z_iload_n 1 dX4_search_47 rfl rfl ?_
      refine y_Si [_, _] _ kX4_60 c_has dX4_search_48 rfl rfl (Nat.le_of_ble_eq_true rfl) (show _ ≤ e + 1 + 4 by omega) ⟨Nat.zero_le _, Nat.zero_le _⟩ ?_
      refine z_if_ne 66 dX4_search_51 (by decide) (fun c_2 => ?_) (fun c_2 => ?_)
      · refine z_iconst 0 dX4_search_66 (by decide) ?_
        refine z_istore (lv' := [(5, .int 0), (0, .ref 50), (1, .int (Int32.ofNat d)), (2, .int lf), (3, .int fr), (4, .int q)]) dX4_search_67 (Nat.le_of_ble_eq_true rfl) rfl ?_
        have loop69 : ∀ (n : Nat) (k : Nat) (mm : zmem), k + n = 8 → (sserch (e + 1) d lf fr q m = aput (sfold (fun i m => if shas fr (Int32.ofNat i) = 0 then m else sserch e (d + 1) lf (fr &&& (sbit (Int32.ofNat i) ^^^ -1)) (q + sqam (aput m 53 7 (Int32.ofNat d) (Int32.ofNat i)) (Int32.ofNat d) 7) (aput m 53 7 (Int32.ofNat d) (Int32.ofNat i))) n k mm) 53 7 (Int32.ofNat d) (-1)) → Z (zMB (Q0 (sserch (e + 1) d lf fr q m)) (e + 1 + 4) MX4_search) 69 [(0, .ref 50), (1, .int (Int32.ofNat d)), (2, .int lf), (3, .int fr), (4, .int q), (5, .int (Int32.ofNat k))] [] (hp mm) 0 0 := by
          intro n
          induction n with
          | zero =>
            intro k mm hk hr
            refine z_iload 5 dX4_search_69 rfl ?_
            refine z_bipush 8 dX4_search_71 (by decide) ?_
            refine z_icmp_ge 131 dX4_search_73 (by decide) (fun c_3 => ?_) (fun c_3 => ?_)
            · refine z_aload_n 0 dX4_search_131 rfl rfl ?_
              refine y_getR fX4_18 dX4_search_132 rfl rfl ?_
              refine z_iload_n 1 dX4_search_135 rfl rfl ?_
              refine z_iconst (-1) dX4_search_136 (by decide) ?_
              refine y_S0 [_, _, _] _ kX4_32 (c_put (q := 53) (n := 7) rfl (by decide)) dX4_search_137 rfl rfl (Nat.le_of_ble_eq_true rfl) (show _ ≤ e + 1 + 4 by omega) ⟨Nat.zero_le _, Nat.zero_le _⟩ ?_
              exact y_vret dX4_search_140 rfl (by first | exact hr.symm | (rw [sserch, if_neg hj]; simp [c_1, c_2, c_3]) | simp [sserch, c_1, c_2, c_3])
            · exact (dz rfl (b := 8) (N := 8) rfl (by omega) (by omega) c_3).elim
          | succ n ih69 =>
            intro k mm hk hr
            refine z_iload 5 dX4_search_69 rfl ?_
            refine z_bipush 8 dX4_search_71 (by decide) ?_
            refine z_icmp_ge 131 dX4_search_73 (by decide) (fun c_4 => ?_) (fun c_4 => ?_)
            · exact (ds rfl (b := 8) (N := 8) rfl (by omega) (by omega) c_4).elim
            · refine z_iload_n 3 dX4_search_76 rfl rfl ?_
              refine z_iload 5 dX4_search_77 rfl ?_
              refine y_Si [_, _] _ kX4_60 c_has dX4_search_79 rfl rfl (Nat.le_of_ble_eq_true rfl) (show _ ≤ e + 1 + 4 by omega) ⟨Nat.zero_le _, Nat.zero_le _⟩ ?_
              refine z_if_ne 88 dX4_search_82 (by decide) (fun c_5 => ?_) (fun c_5 => ?_)
              · refine z_aload_n 0 dX4_search_88 rfl rfl ?_
                refine y_getR fX4_18 dX4_search_89 rfl rfl ?_
                refine z_iload_n 1 dX4_search_92 rfl rfl ?_
                refine z_iload 5 dX4_search_93 rfl ?_
                refine y_S0 [_, _, _] _ kX4_32 (c_put (q := 53) (n := 7) rfl (by decide)) dX4_search_95 rfl rfl (Nat.le_of_ble_eq_true rfl) (show _ ≤ e + 1 + 4 by omega) ⟨Nat.zero_le _, Nat.zero_le _⟩ ?_
                refine z_aload_n 0 dX4_search_98 rfl rfl ?_
                refine z_iload_n 1 dX4_search_99 rfl rfl ?_
                refine z_iconst 1 dX4_search_100 (by decide) ?_
                refine z_iadd dX4_search_101 ?_
                refine z_itop (y := (Int32.ofNat (d + 1))) (nat_succ d) ?_
                refine z_iload_n 2 dX4_search_102 rfl rfl ?_
                refine z_iload_n 3 dX4_search_103 rfl rfl ?_
                refine z_iload 5 dX4_search_104 rfl ?_
                refine y_Si [_] _ kX4_53 c_bit dX4_search_106 rfl rfl (Nat.le_of_ble_eq_true rfl) (show _ ≤ e + 1 + 4 by omega) ⟨Nat.zero_le _, Nat.zero_le _⟩ ?_
                refine z_iconst (-1) dX4_search_109 (by decide) ?_
                refine z_ixor dX4_search_110 ?_
                refine z_iand dX4_search_111 ?_
                refine z_iload 4 dX4_search_112 rfl ?_
                refine z_aload_n 0 dX4_search_114 rfl rfl ?_
                refine z_iload_n 1 dX4_search_115 rfl rfl ?_
                refine z_bipush 7 dX4_search_116 (by decide) ?_
                refine y_Vi [_, _] _ kX4_76 (c_qam (A := 7) (by decide)) rfl rfl dX4_search_118 rfl rfl (Nat.le_of_ble_eq_true rfl) (show _ ≤ e + 1 + 4 by omega) ⟨Nat.zero_le _, Nat.zero_le _⟩ ?_
                refine z_iadd dX4_search_121 ?_
                refine y_S0 [_, _, _, _, _] _ kX4_88 (ih _ _ _ _) dX4_search_122 rfl rfl (Nat.le_of_ble_eq_true rfl) (show _ ≤ e + 1 + 4 by omega) ⟨Nat.zero_le _, Nat.zero_le _⟩ ?_
                obtain ⟨v_6, e_6⟩ : ∃ y : Int32, y = (Int32.ofNat k) + 1 := ⟨_, rfl⟩
                refine z_iinc (lv' := [(5, .int v_6), (0, .ref 50), (1, .int (Int32.ofNat d)), (2, .int lf), (3, .int fr), (4, .int q)]) 5 v_6 dX4_search_125 rfl (by rw [e_6]; rfl) (Nat.le_of_ble_eq_true rfl) rfl ?_
                refine z_goto 69 dX4_search_128 (by decide) ?_
                obtain rfl : v_6 = Int32.ofNat (k + 1) := e_6.trans (nat_succ k)
                refine z_sub [1,2,3,4,5,0] rfl ?_
                exact ih69 (k + 1) _ (by omega) (hr.trans (congrArg (fun z => aput (sfold (fun i m => if shas fr (Int32.ofNat i) = 0 then m else sserch e (d + 1) lf (fr &&& (sbit (Int32.ofNat i) ^^^ -1)) (q + sqam (aput m 53 7 (Int32.ofNat d) (Int32.ofNat i)) (Int32.ofNat d) 7) (aput m 53 7 (Int32.ofNat d) (Int32.ofNat i))) n (k + 1) z) 53 7 (Int32.ofNat d) (-1)) (by simp [c_4, c_5])))
              · refine z_goto 125 dX4_search_85 (by decide) ?_
                obtain ⟨v_7, e_7⟩ : ∃ y : Int32, y = (Int32.ofNat k) + 1 := ⟨_, rfl⟩
                refine z_iinc (lv' := [(5, .int v_7), (0, .ref 50), (1, .int (Int32.ofNat d)), (2, .int lf), (3, .int fr), (4, .int q)]) 5 v_7 dX4_search_125 rfl (by rw [e_7]; rfl) (Nat.le_of_ble_eq_true rfl) rfl ?_
                refine z_goto 69 dX4_search_128 (by decide) ?_
                obtain rfl : v_7 = Int32.ofNat (k + 1) := e_7.trans (nat_succ k)
                refine z_sub [1,2,3,4,5,0] rfl ?_
                exact ih69 (k + 1) _ (by omega) (hr.trans (congrArg (fun z => aput (sfold (fun i m => if shas fr (Int32.ofNat i) = 0 then m else sserch e (d + 1) lf (fr &&& (sbit (Int32.ofNat i) ^^^ -1)) (q + sqam (aput m 53 7 (Int32.ofNat d) (Int32.ofNat i)) (Int32.ofNat d) 7) (aput m 53 7 (Int32.ofNat d) (Int32.ofNat i))) n (k + 1) z) 53 7 (Int32.ofNat d) (-1)) (by simp [c_4, c_5])))
        refine z_sub [1,2,3,4,5,0] rfl ?_
        exact loop69 (8) 0 _ (by omega) (by rw [sserch, if_neg hj, if_neg c_2])
      · refine z_aload_n 0 dX4_search_54 rfl rfl ?_
        refine z_iload_n 1 dX4_search_55 rfl rfl ?_
        refine z_iconst 1 dX4_search_56 (by decide) ?_
        refine z_iadd dX4_search_57 ?_
        refine z_itop (y := (Int32.ofNat (d + 1))) (nat_succ d) ?_
        refine z_iload_n 2 dX4_search_58 rfl rfl ?_
        refine z_iload_n 3 dX4_search_59 rfl rfl ?_
        refine z_iload 4 dX4_search_60 rfl ?_
        refine y_S0 [_, _, _, _, _] _ kX4_88 (ih _ _ _ _) dX4_search_62 rfl rfl (Nat.le_of_ble_eq_true rfl) (show _ ≤ e + 1 + 4 by omega) ⟨Nat.zero_le _, Nat.zero_le _⟩ ?_
        exact y_vret dX4_search_65 rfl (by first | exact hr.symm | (rw [sserch, if_neg hj]; simp [c_1, c_2]) | simp [sserch, c_1, c_2])
    · exact (c_1 (nat_lt7 (by omega))).elim
  refine z_aload_n 0 dX4_search_0 rfl rfl ?_
  refine y_getI fX4_28 dX4_search_1 rfl rfl ?_
  refine z_if_eq 17 dX4_search_4 (by decide) (fun c_8 => ?_) (fun c_8 => ?_)
  · refine z_sub [0,1,2,3,4] rfl ?_
    exact join17 (by simp [c_8])
  · refine z_iload 4 dX4_search_7 rfl ?_
    refine z_aload_n 0 dX4_search_9 rfl rfl ?_
    refine y_getI fX4_24 dX4_search_10 rfl rfl ?_
    refine z_icmp_lt 17 dX4_search_13 (by decide) (fun c_9 => ?_) (fun c_9 => ?_)
    · refine z_sub [0,1,2,3,4] rfl ?_
      exact join17 (by simp [c_8, c_9])
    · exact y_vret dX4_search_16 rfl (by first | exact hr.symm | (rw [sserch, if_neg hj]; simp [c_8, c_9]) | simp [sserch, c_8, c_9])
theorem c_search : ∀ (e d : Nat) (lf fr q : Int32) (m : zmem), d + e = 7 → E0 MX4_search (e + 4) [.ref 50, .int (Int32.ofNat d), .int lf, .int fr, .int q] m (sserch e d lf fr q m) := by
  intro e
  induction e with
  | zero => intro d lf fr q m h; obtain rfl : d = 7 := by omega
            exact c_search0
  | succ e ih => intro d lf fr q m h; exact c_searchS h (fun lf fr q m => ih (d + 1) lf fr q m (by omega))
set_option maxRecDepth 100000 in
set_option maxHeartbeats 4000000 in
theorem c_find {m : zmem} {lf fr : Int32} : E0 MX4_find 12 [.ref 50, .int lf, .int fr] m (spfind lf fr m) := by
  refine E0.of (by decide) (Nat.le_of_ble_eq_true rfl) ?_
  show Z _ 0 [(0, .ref 50), (1, .int lf), (2, .int fr)] _ _ _ _
  refine z_aload_n 0 dX4_find_0 rfl rfl ?_
  refine z_iconst 0 dX4_find_1 (by decide) ?_
  refine y_putZ (by decide) fX4_28 dX4_find_2 rfl rfl ?_
  refine z_iload_n 1 dX4_find_5 rfl rfl ?_
  refine y_Si [_] _ kX4_79 c_pop dX4_find_6 rfl rfl (Nat.le_of_ble_eq_true rfl) (Nat.le_of_ble_eq_true rfl) ⟨Nat.zero_le _, Nat.zero_le _⟩ ?_
  refine z_iload_n 2 dX4_find_9 rfl rfl ?_
  refine y_Si [_] _ kX4_79 c_pop dX4_find_10 rfl rfl (Nat.le_of_ble_eq_true rfl) (Nat.le_of_ble_eq_true rfl) ⟨Nat.zero_le _, Nat.zero_le _⟩ ?_
  refine z_icmp_gt 27 dX4_find_13 (by decide) (fun c_1 => ?_) (fun c_1 => ?_)
  · exact y_vret dX4_find_27 rfl (by simp [spfind, c_1])
  · refine z_aload_n 0 dX4_find_16 rfl rfl ?_
    refine z_iconst 0 dX4_find_17 (by decide) ?_
    refine z_iload_n 1 dX4_find_18 rfl rfl ?_
    refine z_iload_n 2 dX4_find_19 rfl rfl ?_
    refine z_aload_n 0 dX4_find_20 rfl rfl ?_
    refine y_Vi [] _ kX4_84 c_qnow rfl rfl dX4_find_21 rfl rfl (Nat.le_of_ble_eq_true rfl) (Nat.le_of_ble_eq_true rfl) ⟨Nat.zero_le _, Nat.zero_le _⟩ ?_
    refine y_S0 [_, _, _, _, _] _ kX4_88 (c_search 7 0 _ _ _ _ rfl) dX4_find_24 rfl rfl (Nat.le_of_ble_eq_true rfl) (Nat.le_of_ble_eq_true rfl) ⟨Nat.zero_le _, Nat.zero_le _⟩ ?_
    exact y_vret dX4_find_27 rfl (by simp [spfind, c_1])
