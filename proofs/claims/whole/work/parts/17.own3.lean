set_option maxRecDepth 100000 in
set_option maxHeartbeats 4000000 in
theorem c6_least {m : zmem} {D Y C L W : Nat} (hI : CI m D Y C L W) {Mo : Nat} {d p : Int32} (hMo : smin 999 (9999 - sk_had m d) = Int32.ofNat Mo) (hMo9 : Mo ≤ 999) (hIa : ∀ v, CI (aput m (7 + 5) 7 d v) D Y C L W) : Ei MX6_leastBribe 6 [.ref 0, .int d, .int p] m (sk_br m D C Mo d p) (sk_brm m d) := by
  obtain ⟨hD, hD7, hY, hY8, hC, hC4, hL, hL4, hW, hW20⟩ := id hI
  refine Ei.of (by decide) (Nat.le_of_ble_eq_true rfl) ?_
  show Z _ 0 [(0, .ref 0), (1, .int d), (2, .int p)] _ _ _ _
  refine z_aload_n 0 dX6_leastBribe_0 rfl rfl ?_
  refine y_getR fX6_29 dX6_leastBribe_1 rfl rfl ?_
  refine y_Vi [] _ kX6_123 (c_waiting isPar7 hD hD7) rfl isPar7.1 dX6_leastBribe_4 rfl rfl (Nat.le_of_ble_eq_true rfl) (Nat.le_of_ble_eq_true rfl) ⟨Nat.zero_le _, Nat.zero_le _⟩ ?_
  refine z_itop (y := (swait m 7 D)) rfl ?_
  refine z_istore_n (lv' := [(3, .int (swait m 7 D)), (0, .ref 0), (1, .int d), (2, .int p)]) dX6_leastBribe_7 rfl (Nat.le_of_ble_eq_true rfl) rfl ?_
  refine z_aload_n 1 dX6_leastBribe_8 rfl rfl ?_
  refine y_getR fX6_29 dX6_leastBribe_9 rfl rfl ?_
  refine y_getR fX6_162 dX6_leastBribe_12 isPar7.1 rfl ?_
  refine z_iload_n 2 dX6_leastBribe_15 rfl rfl ?_
  refine y_Si [_, _] _ kX6_142 (c_at (q := (7 + 5)) (n := 7) isPar7.2.2.2.2.2.1 (by decide)) dX6_leastBribe_16 rfl rfl (Nat.le_of_ble_eq_true rfl) (Nat.le_of_ble_eq_true rfl) ⟨Nat.zero_le _, Nat.zero_le _⟩ ?_
  refine z_itop (y := (sk_had m d)) rfl ?_
  refine z_istore (lv' := [(4, .int (sk_had m d)), (3, .int (swait m 7 D)), (0, .ref 0), (1, .int d), (2, .int p)]) dX6_leastBribe_19 (Nat.le_of_ble_eq_true rfl) rfl ?_
  refine z_sipush 999 dX6_leastBribe_21 (by decide) ?_
  refine z_sipush 9999 dX6_leastBribe_24 (by decide) ?_
  refine z_iload 0 dX6_leastBribe_27 rfl ?_
  refine z_isub dX6_leastBribe_29 ?_
  refine z_mmin lX6_193 zh_min zh_mi zh_minc dX6_leastBribe_30 (Nat.le_of_ble_eq_true rfl) (Nat.le_of_ble_eq_true rfl) (Nat.zero_le _) (Nat.zero_le _) ?_
  refine z_itop (y := (Int32.ofNat Mo)) hMo ?_
  refine z_istore (lv' := [(5, .int (Int32.ofNat Mo)), (4, .int (sk_had m d)), (3, .int (swait m 7 D)), (0, .ref 0), (1, .int d), (2, .int p)]) dX6_leastBribe_33 (Nat.le_of_ble_eq_true rfl) rfl ?_
  refine z_iconst (-1) dX6_leastBribe_35 (by decide) ?_
  refine z_istore (lv' := [(6, .int (-1)), (5, .int (Int32.ofNat Mo)), (4, .int (sk_had m d)), (3, .int (swait m 7 D)), (0, .ref 0), (1, .int d), (2, .int p)]) dX6_leastBribe_36 (Nat.le_of_ble_eq_true rfl) rfl ?_
  refine z_iconst 0 dX6_leastBribe_38 (by decide) ?_
  refine z_istore (lv' := [(7, .int 0), (6, .int (-1)), (5, .int (Int32.ofNat Mo)), (4, .int (sk_had m d)), (3, .int (swait m 7 D)), (0, .ref 0), (1, .int d), (2, .int p)]) dX6_leastBribe_39 (Nat.le_of_ble_eq_true rfl) rfl ?_
  have join97 : ∀ (tk : Int32) (mm : zmem), (∀ v, aput mm (7 + 5) 7 d v = aput m (7 + 5) 7 d v) → tk = sk_br m D C Mo d p → Z (zMB (Qi (sk_br m D C Mo d p) (sk_brm m d)) 6 MX6_leastBribe) 97 [(0, .ref 0), (1, .int d), (2, .int p), (4, .int (sk_had m d)), (6, .int tk)] [] (hp mm) 0 0 := by
    intro tk mm hmm htk
    refine z_aload_n 0 dX6_leastBribe_97 rfl rfl ?_
    refine y_getR fX6_29 dX6_leastBribe_98 rfl rfl ?_
    refine y_getR fX6_162 dX6_leastBribe_101 isPar7.1 rfl ?_
    refine z_iload_n 1 dX6_leastBribe_104 rfl rfl ?_
    refine z_iload 3 dX6_leastBribe_105 rfl ?_
    refine y_S0 [_, _, _] _ kX6_188 (c_put (q := (7 + 5)) (n := 7) isPar7.2.2.2.2.2.1 (by decide)) dX6_leastBribe_107 rfl rfl (Nat.le_of_ble_eq_true rfl) (Nat.le_of_ble_eq_true rfl) ⟨Nat.zero_le _, Nat.zero_le _⟩ ?_
    refine z_iload 4 dX6_leastBribe_110 rfl ?_
    exact y_iret dX6_leastBribe_112 rfl htk (hmm _)
  have loop41 : ∀ (n : Nat) (k : Nat) (tk : Int32) (mm : zmem), k + n = Mo + 1 → (∀ v, aput mm (7 + 5) 7 d v = aput m (7 + 5) 7 d v) → (sk_br m D C Mo d p = if tk = -1 then sfind (sk_brc m D C d p) n k else tk) → Z (zMB (Qi (sk_br m D C Mo d p) (sk_brm m d)) 6 MX6_leastBribe) 41 [(0, .ref 0), (1, .int d), (2, .int p), (3, .int (swait m 7 D)), (4, .int (sk_had m d)), (5, .int (Int32.ofNat Mo)), (6, .int tk), (7, .int (Int32.ofNat k))] [] (hp mm) 0 0 := by
    intro n
    induction n with
    | zero =>
      intro k tk mm hk hmm hw
      refine z_iload 7 dX6_leastBribe_41 rfl ?_
      refine z_iload 5 dX6_leastBribe_43 rfl ?_
      refine z_icmp_gt 97 dX6_leastBribe_45 (by decide) (fun c_1 => ?_) (fun c_1 => ?_)
      · refine z_sub [0,1,2,4,6] rfl ?_
        exact join97 _ _ hmm (by rw [hw]; simp [sfind, c_1])
      · exact (dzg (b := Int32.ofNat Mo) (N := Mo) rfl (by omega) (by omega) c_1).elim
    | succ n ih41 =>
      intro k tk mm hk hmm hw
      refine z_iload 7 dX6_leastBribe_41 rfl ?_
      refine z_iload 5 dX6_leastBribe_43 rfl ?_
      refine z_icmp_gt 97 dX6_leastBribe_45 (by decide) (fun c_2 => ?_) (fun c_2 => ?_)
      · exact (dsg (b := Int32.ofNat Mo) (N := Mo) rfl (by omega) (by omega) c_2).elim
      · refine z_iload 6 dX6_leastBribe_48 rfl ?_
        refine z_iconst (-1) dX6_leastBribe_50 (by decide) ?_
        refine z_icmp_ne 97 dX6_leastBribe_51 (by decide) (fun c_3 => ?_) (fun c_3 => ?_)
        · refine z_sub [0,1,2,4,6] rfl ?_
          exact join97 _ _ hmm (by rw [hw]; simp [sfind, c_2, c_3])
        · refine z_aload_n 0 dX6_leastBribe_54 rfl rfl ?_
          refine y_getR fX6_29 dX6_leastBribe_55 rfl rfl ?_
          refine y_getR fX6_162 dX6_leastBribe_58 isPar7.1 rfl ?_
          refine z_iload_n 1 dX6_leastBribe_61 rfl rfl ?_
          refine z_iload 4 dX6_leastBribe_62 rfl ?_
          refine z_iload 7 dX6_leastBribe_64 rfl ?_
          refine z_iadd dX6_leastBribe_66 ?_
          refine y_S0 [_, _, _] _ kX6_188 (c_put (q := (7 + 5)) (n := 7) isPar7.2.2.2.2.2.1 (by decide)) dX6_leastBribe_67 rfl rfl (Nat.le_of_ble_eq_true rfl) (Nat.le_of_ble_eq_true rfl) ⟨Nat.zero_le _, Nat.zero_le _⟩ ?_
          refine y_mem (m1 := aput m (7 + 5) 7 d (sk_had m d + Int32.ofNat k)) (hmm _) ?_
          refine z_aload_n 0 dX6_leastBribe_70 rfl rfl ?_
          refine y_getR fX6_29 dX6_leastBribe_71 rfl rfl ?_
          refine z_aload_n 0 dX6_leastBribe_74 rfl rfl ?_
          refine y_getR fX6_19 dX6_leastBribe_75 rfl rfl ?_
          refine z_iload_n 3 dX6_leastBribe_78 rfl rfl ?_
          refine z_iload_n 1 dX6_leastBribe_79 rfl rfl ?_
          refine y_Vi [_, _, _] _ kX6_184 (c_place isPar7 isCus3 (hIa _).2.2.2.2.1 hC4 (hIa _).1 hD7) rfl isPar7.1 dX6_leastBribe_80 rfl rfl (Nat.le_of_ble_eq_true rfl) (Nat.le_of_ble_eq_true rfl) ⟨Nat.zero_le _, Nat.zero_le _⟩ ?_
          refine z_iload_n 2 dX6_leastBribe_83 rfl rfl ?_
          refine z_icmp_gt 91 dX6_leastBribe_84 (by decide) (fun c_4 => ?_) (fun c_4 => ?_)
          · obtain ⟨v_5, e_5⟩ : ∃ y : Int32, y = (Int32.ofNat k) + 1 := ⟨_, rfl⟩
            refine z_iinc (lv' := [(7, .int v_5), (0, .ref 0), (1, .int d), (2, .int p), (3, .int (swait m 7 D)), (4, .int (sk_had m d)), (5, .int (Int32.ofNat Mo)), (6, .int tk)]) 7 v_5 dX6_leastBribe_91 rfl (by rw [e_5]; rfl) (Nat.le_of_ble_eq_true rfl) rfl ?_
            refine z_goto 41 dX6_leastBribe_94 (by decide) ?_
            obtain rfl : v_5 = Int32.ofNat (k + 1) := e_5.trans (nat_succ k)
            refine z_sub [1,2,3,4,5,6,7,0] rfl ?_
            exact ih41 (k + 1) _ _ (by omega) (fun v => aput_aput _ _ _ _ _ _) (hw.trans (by simp [sfind, sk_brc, ofNat_ne (k := k) (by omega), c_2, c_3, c_4]))
          · refine z_iload 7 dX6_leastBribe_87 rfl ?_
            refine z_istore (lv' := [(6, .int (Int32.ofNat k)), (0, .ref 0), (1, .int d), (2, .int p), (3, .int (swait m 7 D)), (4, .int (sk_had m d)), (5, .int (Int32.ofNat Mo)), (7, .int (Int32.ofNat k))]) dX6_leastBribe_89 (Nat.le_of_ble_eq_true rfl) rfl ?_
            obtain ⟨v_6, e_6⟩ : ∃ y : Int32, y = (Int32.ofNat k) + 1 := ⟨_, rfl⟩
            refine z_iinc (lv' := [(7, .int v_6), (6, .int (Int32.ofNat k)), (0, .ref 0), (1, .int d), (2, .int p), (3, .int (swait m 7 D)), (4, .int (sk_had m d)), (5, .int (Int32.ofNat Mo))]) 7 v_6 dX6_leastBribe_91 rfl (by rw [e_6]; rfl) (Nat.le_of_ble_eq_true rfl) rfl ?_
            refine z_goto 41 dX6_leastBribe_94 (by decide) ?_
            obtain rfl : v_6 = Int32.ofNat (k + 1) := e_6.trans (nat_succ k)
            refine z_sub [2,3,4,5,6,7,1,0] rfl ?_
            exact ih41 (k + 1) _ _ (by omega) (fun v => aput_aput _ _ _ _ _ _) (hw.trans (by simp [sfind, sk_brc, ofNat_ne (k := k) (by omega), c_2, c_3, c_4]))
  refine z_sub [5,6,7,4,3,2,1,0] rfl ?_
  exact loop41 (Mo + 1) 0 _ _ (by omega) (fun _ => rfl) rfl
set_option maxRecDepth 100000 in
set_option maxHeartbeats 4000000 in
theorem c6_bribe {m : zmem} {D Y C L W : Nat} (hI : CI m D Y C L W) {Mo : Nat} {d p : Int32} (hMo : smin 999 (9999 - sk_had m d) = Int32.ofNat Mo) (hMo9 : Mo ≤ 999) : Ei MX6_bribe 7 [.ref 0, .int d, .int p] m ((sk_bribe m D C Mo d p).1) ((sk_bribe m D C Mo d p).2) := by
  obtain ⟨hD, hD7, hY, hY8, hC, hC4, hL, hL4, hW, hW20⟩ := id hI
  refine Ei.of (by decide) (Nat.le_of_ble_eq_true rfl) ?_
  show Z _ 0 [(0, .ref 0), (1, .int d), (2, .int p)] _ _ _ _
  refine z_aload_n 0 dX6_bribe_0 rfl rfl ?_
  refine y_getR fX6_29 dX6_bribe_1 rfl rfl ?_
  refine z_iload_n 1 dX6_bribe_4 rfl rfl ?_
  refine y_Vi [_] _ kX6_150 (c_hasDead isPar7) rfl isPar7.1 dX6_bribe_5 rfl rfl (Nat.le_of_ble_eq_true rfl) (Nat.le_of_ble_eq_true rfl) ⟨Nat.zero_le _, Nat.zero_le _⟩ ?_
  refine z_if_ne 14 dX6_bribe_8 (by decide) (fun c_1 => ?_) (fun c_1 => ?_)
  · refine z_iload_n 2 dX6_bribe_14 rfl rfl ?_
    refine z_if_lt 24 dX6_bribe_15 (by decide) (fun c_2 => ?_) (fun c_2 => ?_)
    · refine z_ldc (-1000000002) dX6_bribe_24 nX6_77 ?_
      exact y_iret dX6_bribe_26 rfl (by simp [sk_bribe, c_1, c_2]) (by simp [sk_bribe, c_1, c_2])
    · refine z_iload_n 2 dX6_bribe_18 rfl rfl ?_
      refine z_bipush 6 dX6_bribe_19 (by decide) ?_
      refine z_icmp_le 27 dX6_bribe_21 (by decide) (fun c_3 => ?_) (fun c_3 => ?_)
      · refine z_aload_n 0 dX6_bribe_27 rfl rfl ?_
        refine y_getR fX6_29 dX6_bribe_28 rfl rfl ?_
        refine y_Vi [] _ kX6_123 (c_waiting isPar7 hD hD7) rfl isPar7.1 dX6_bribe_31 rfl rfl (Nat.le_of_ble_eq_true rfl) (Nat.le_of_ble_eq_true rfl) ⟨Nat.zero_le _, Nat.zero_le _⟩ ?_
        refine z_iload_n 1 dX6_bribe_34 rfl rfl ?_
        refine y_Si [_, _] _ kX6_174 c_has dX6_bribe_35 rfl rfl (Nat.le_of_ble_eq_true rfl) (Nat.le_of_ble_eq_true rfl) ⟨Nat.zero_le _, Nat.zero_le _⟩ ?_
        refine z_if_ne 44 dX6_bribe_38 (by decide) (fun c_4 => ?_) (fun c_4 => ?_)
        · refine z_aload_n 0 dX6_bribe_44 rfl rfl ?_
          refine z_iload_n 1 dX6_bribe_45 rfl rfl ?_
          refine z_iload_n 2 dX6_bribe_46 rfl rfl ?_
          refine y_Vi [_, _] _ kX6_267 (c6_least hI hMo hMo9 (fun v => hI.keep (K5.aput (by decide) (by decide) (by decide) (by decide)))) rfl rfl dX6_bribe_47 rfl rfl (Nat.le_of_ble_eq_true rfl) (Nat.le_of_ble_eq_true rfl) ⟨Nat.zero_le _, Nat.zero_le _⟩ ?_
          exact y_iret dX6_bribe_50 rfl (by simp [sk_bribe, c_1, c_2, c_3, c_4]) (by simp [sk_bribe, c_1, c_2, c_3, c_4])
        · refine z_ldc (-1000000003) dX6_bribe_41 nX6_192 ?_
          exact y_iret dX6_bribe_43 rfl (by simp [sk_bribe, c_1, c_2, c_3, c_4]) (by simp [sk_bribe, c_1, c_2, c_3, c_4])
      · refine z_ldc (-1000000002) dX6_bribe_24 nX6_77 ?_
        exact y_iret dX6_bribe_26 rfl (by simp [sk_bribe, c_1, c_2, c_3]) (by simp [sk_bribe, c_1, c_2, c_3])
  · refine z_ldc (-1000000001) dX6_bribe_11 nX6_137 ?_
    exact y_iret dX6_bribe_13 rfl (by simp [sk_bribe, c_1]) (by simp [sk_bribe, c_1])
set_option maxRecDepth 100000 in
set_option maxHeartbeats 4000000 in
theorem c6_feed {m : zmem} {D Y C L W : Nat} (hI : CI m D Y C L W) {n : Int32} {b : Int64} : Ei MX6_feed 2 [.ref 0, .int n, .long b] m ((sk_feed m n b).1) ((sk_feed m n b).2) := by
  obtain ⟨hD, hD7, hY, hY8, hC, hC4, hL, hL4, hW, hW20⟩ := id hI
  refine Ei.of (by decide) (Nat.le_of_ble_eq_true rfl) ?_
  show Z _ 0 [(0, .ref 0), (1, .int n), (2, .long b)] _ _ _ _
  refine z_iload_n 1 dX6_feed_0 rfl rfl ?_
  refine z_iconst 1 dX6_feed_1 (by decide) ?_
  refine z_icmp_lt 11 dX6_feed_2 (by decide) (fun c_1 => ?_) (fun c_1 => ?_)
  · refine z_ldc (-1000000002) dX6_feed_11 nX6_77 ?_
    exact y_iret dX6_feed_13 rfl (by first | (simp [sk_feed, c_1]; done) | (rw [sk_feed]; simp [hr, sdown, c_1])) (by first | (simp [sk_feed, c_1]; done) | (rw [sk_feed]; simp [hr, sdown, c_1]))
  · refine z_iload_n 1 dX6_feed_5 rfl rfl ?_
    refine z_bipush 8 dX6_feed_6 (by decide) ?_
    refine z_icmp_le 14 dX6_feed_8 (by decide) (fun c_2 => ?_) (fun c_2 => ?_)
    · refine z_aload_n 0 dX6_feed_14 rfl rfl ?_
      refine y_getR fX6_10 dX6_feed_15 rfl rfl ?_
      refine y_getI fX6_78 dX6_feed_18 rfl rfl ?_
      refine z_iload_n 1 dX6_feed_21 rfl rfl ?_
      refine z_iadd dX6_feed_22 ?_
      refine z_sipush 400 dX6_feed_23 (by decide) ?_
      refine z_icmp_le 32 dX6_feed_26 (by decide) (fun c_3 => ?_) (fun c_3 => ?_)
      · refine z_iload_n 1 dX6_feed_32 rfl rfl ?_
        refine z_iconst 1 dX6_feed_33 (by decide) ?_
        refine z_isub dX6_feed_34 ?_
        refine z_itop (y := (Int32.ofNat n.toNatClampNeg - 1)) (congrArg (· - 1) (rng (lo := 1) (by decide) c_1 (Int32.not_lt.mpr c_2))) ?_
        refine z_istore (lv' := [(4, .int (Int32.ofNat n.toNatClampNeg - 1)), (0, .ref 0), (1, .int n), (2, .long b)]) dX6_feed_35 (Nat.le_of_ble_eq_true rfl) rfl ?_
        have loop37 : ∀ (q : Nat) (mm : zmem), q ≤ 8 → sk_feedm m n b = sdown (fun k m => sappend m (sbyte b k)) q mm → Z (zMB (Qi ((sk_feed m n b).1) ((sk_feed m n b).2)) 2 MX6_feed) 37 [(0, .ref 0), (1, .int n), (2, .long b), (4, .int (Int32.ofNat q - 1))] [] (hp mm) 0 0 := by
          intro q
          induction q with
          | zero =>
            intro mm hq8 hr
            refine z_iload 3 dX6_feed_37 rfl ?_
            refine z_if_lt 67 dX6_feed_39 (by decide) (fun c_4 => ?_) (fun c_4 => ?_)
            · refine z_aload_n 0 dX6_feed_67 rfl rfl ?_
              refine y_getR fX6_10 dX6_feed_68 rfl rfl ?_
              refine y_getI fX6_78 dX6_feed_71 rfl rfl ?_
              exact y_iret dX6_feed_74 rfl (by first | (simp [sk_feed, c_1, c_2, c_3, c_4]; done) | (rw [sk_feed]; simp [hr, sdown, c_1, c_2, c_3, c_4])) (by first | (simp [sk_feed, c_1, c_2, c_3, c_4]; done) | (rw [sk_feed]; simp [hr, sdown, c_1, c_2, c_3, c_4]))
            · exact (c_4 (by decide)).elim
          | succ q ih37 =>
            intro mm hq8 hr
            rw [nat_pred]
            refine z_iload 3 dX6_feed_37 rfl ?_
            refine z_if_lt 67 dX6_feed_39 (by decide) (fun c_5 => ?_) (fun c_5 => ?_)
            · exact (lt0 (by omega) c_5).elim
            · refine z_aload_n 0 dX6_feed_42 rfl rfl ?_
              refine y_getR fX6_10 dX6_feed_43 rfl rfl ?_
              refine z_lload_n 2 dX6_feed_46 rfl rfl ?_
              refine z_bipush 8 dX6_feed_47 (by decide) ?_
              refine z_iload 3 dX6_feed_49 rfl ?_
              refine z_imul dX6_feed_51 ?_
              refine z_lushr dX6_feed_52 ?_
              refine z_l2i dX6_feed_53 ?_
              refine z_sipush 255 dX6_feed_54 (by decide) ?_
              refine z_iand dX6_feed_57 ?_
              refine y_V0 [_] _ kX6_83 c_append rfl rfl dX6_feed_58 rfl rfl (Nat.le_of_ble_eq_true rfl) (Nat.le_of_ble_eq_true rfl) ⟨Nat.zero_le _, Nat.zero_le _⟩ ?_
              obtain ⟨v_6, e_6⟩ : ∃ y : Int32, y = (Int32.ofNat q) + (-1) := ⟨_, rfl⟩
              refine z_iinc (lv' := [(4, .int v_6), (0, .ref 0), (1, .int n), (2, .long b)]) 3 v_6 dX6_feed_61 rfl (by rw [e_6]; rfl) (Nat.le_of_ble_eq_true rfl) rfl ?_
              refine z_goto 37 dX6_feed_64 (by decide) ?_
              obtain rfl : v_6 = (Int32.ofNat q - 1) := e_6.trans (add_m1 _)
              refine z_sub [1,2,3,0] rfl ?_
              exact ih37 _ (by omega) hr
        refine z_sub [1,2,3,0] rfl ?_
        exact loop37 n.toNatClampNeg _ (rng_le (hi := 8) (Int32.not_lt.mpr c_2)) rfl
      · refine z_ldc (-1000000004) dX6_feed_29 nX6_82 ?_
        exact y_iret dX6_feed_31 rfl (by first | (simp [sk_feed, c_1, c_2, c_3]; done) | (rw [sk_feed]; simp [hr, sdown, c_1, c_2, c_3])) (by first | (simp [sk_feed, c_1, c_2, c_3]; done) | (rw [sk_feed]; simp [hr, sdown, c_1, c_2, c_3]))
    · refine z_ldc (-1000000002) dX6_feed_11 nX6_77 ?_
      exact y_iret dX6_feed_13 rfl (by first | (simp [sk_feed, c_1, c_2]; done) | (rw [sk_feed]; simp [hr, sdown, c_1, c_2])) (by first | (simp [sk_feed, c_1, c_2]; done) | (rw [sk_feed]; simp [hr, sdown, c_1, c_2]))
set_option maxRecDepth 100000 in
set_option maxHeartbeats 4000000 in
theorem c6_parish {m : zmem} {D Y C L W : Nat} (hI : CI m D Y C L W)  : Ei MX6_parish 7 [.ref 0] m ((sk_parish m L).1) ((sk_parish m L).2) := by
  obtain ⟨hD, hD7, hY, hY8, hC, hC4, hL, hL4, hW, hW20⟩ := id hI
  refine Ei.of (by decide) (Nat.le_of_ble_eq_true rfl) ?_
  show Z _ 0 [(0, .ref 0)] _ _ _ _
  refine z_aload_n 0 dX6_parish_0 rfl rfl ?_
  refine y_getR fX6_33 dX6_parish_1 rfl rfl ?_
  refine z_aload_n 0 dX6_parish_4 rfl rfl ?_
  refine y_getR fX6_10 dX6_parish_5 rfl rfl ?_
  refine y_V0 [_] _ kX6_86 (c_readFromP rfl hL hL4) rfl isPar17.1 dX6_parish_8 rfl rfl (Nat.le_of_ble_eq_true rfl) (Nat.le_of_ble_eq_true rfl) ⟨Nat.zero_le _, Nat.zero_le _⟩ ?_
  refine z_aload_n 0 dX6_parish_11 rfl rfl ?_
  refine y_getR fX6_10 dX6_parish_12 rfl rfl ?_
  refine z_iconst 0 dX6_parish_15 (by decide) ?_
  refine y_putI fX6_78 dX6_parish_16 rfl rfl ?_
  refine y_mem (m1 := sk_p2 m L) rfl ?_
  refine z_aload_n 0 dX6_parish_19 rfl rfl ?_
  refine y_getR fX6_10 dX6_parish_20 rfl rfl ?_
  refine y_getI fX6_90 dX6_parish_23 rfl rfl ?_
  refine z_if_eq 40 dX6_parish_26 (by decide) (fun c_1 => ?_) (fun c_1 => ?_)
  · refine z_aload_n 0 dX6_parish_40 rfl rfl ?_
    refine y_getR fX6_33 dX6_parish_41 rfl rfl ?_
    refine y_V0 [] _ kX6_74 (c_settle isPar17) rfl isPar17.1 dX6_parish_44 rfl rfl (Nat.le_of_ble_eq_true rfl) (Nat.le_of_ble_eq_true rfl) ⟨Nat.zero_le _, Nat.zero_le _⟩ ?_
    refine z_aload_n 0 dX6_parish_47 rfl rfl ?_
    refine y_getR fX6_33 dX6_parish_48 rfl rfl ?_
    refine z_aload_n 0 dX6_parish_51 rfl rfl ?_
    refine y_getR fX6_29 dX6_parish_52 rfl rfl ?_
    refine y_getI fX6_93 dX6_parish_55 isPar7.1 rfl ?_
    refine y_putI fX6_93 dX6_parish_58 isPar17.1 rfl ?_
    refine y_mem (m1 := sk_p3 (sk_p2 m L)) (by unfold sk_p3; rfl) ?_
    refine z_aload_n 0 dX6_parish_61 rfl rfl ?_
    refine y_getR fX6_29 dX6_parish_62 rfl rfl ?_
    refine z_aload_n 0 dX6_parish_65 rfl rfl ?_
    refine y_getR fX6_33 dX6_parish_66 rfl rfl ?_
    refine y_V0 [_] _ kX6_96 (c_copyFromP isPar17 isPar7) rfl isPar7.1 dX6_parish_69 rfl rfl (Nat.le_of_ble_eq_true rfl) (Nat.le_of_ble_eq_true rfl) ⟨Nat.zero_le _, Nat.zero_le _⟩ ?_
    refine z_aload_n 0 dX6_parish_72 rfl rfl ?_
    refine y_getR fX6_52 dX6_parish_73 rfl rfl ?_
    refine z_iconst 0 dX6_parish_76 (by decide) ?_
    refine y_putI fX6_100 dX6_parish_77 rfl rfl ?_
    refine z_aload_n 0 dX6_parish_80 rfl rfl ?_
    refine z_iconst 0 dX6_parish_81 (by decide) ?_
    refine y_putZ (by decide) fX6_42 dX6_parish_82 rfl rfl ?_
    refine z_aload_n 0 dX6_parish_85 rfl rfl ?_
    refine z_iconst 0 dX6_parish_86 (by decide) ?_
    refine y_putZ (by decide) fX6_46 dX6_parish_87 rfl rfl ?_
    refine y_mem (m1 := sk_p4 (sk_p2 m L)) (by unfold sk_p4; rfl) ?_
    refine z_aload_n 0 dX6_parish_90 rfl rfl ?_
    refine y_getR fX6_29 dX6_parish_91 rfl rfl ?_
    refine y_getI fX6_103 dX6_parish_94 isPar7.1 rfl ?_
    exact y_iret dX6_parish_97 rfl (by first | (simp only [sk_parish, if_neg c_1]; done) | (simp only [sk_parish, if_pos c_1]; done)) (by first | (simp only [sk_parish, if_neg c_1]; done) | (simp only [sk_parish, if_pos c_1]; done))
  · refine z_bipush (-10) dX6_parish_29 (by decide) ?_
    refine z_aload_n 0 dX6_parish_31 rfl rfl ?_
    refine y_getR fX6_10 dX6_parish_32 rfl rfl ?_
    refine y_getI fX6_90 dX6_parish_35 rfl rfl ?_
    refine z_isub dX6_parish_38 ?_
    exact y_iret dX6_parish_39 rfl (by first | (simp only [sk_parish, if_neg c_1]; done) | (simp only [sk_parish, if_pos c_1]; done)) (by first | (simp only [sk_parish, if_neg c_1]; done) | (simp only [sk_parish, if_pos c_1]; done))
set_option maxRecDepth 100000 in
set_option maxHeartbeats 4000000 in
theorem c6_custom {m : zmem} {D Y C L W : Nat} (hI : CI m D Y C L W)  : Ei MX6_custom 7 [.ref 0] m ((sk_custom m L).1) ((sk_custom m L).2) := by
  obtain ⟨hD, hD7, hY, hY8, hC, hC4, hL, hL4, hW, hW20⟩ := id hI
  refine Ei.of (by decide) (Nat.le_of_ble_eq_true rfl) ?_
  show Z _ 0 [(0, .ref 0)] _ _ _ _
  refine z_aload_n 0 dX6_custom_0 rfl rfl ?_
  refine y_getR fX6_23 dX6_custom_1 rfl rfl ?_
  refine z_aload_n 0 dX6_custom_4 rfl rfl ?_
  refine y_getR fX6_10 dX6_custom_5 rfl rfl ?_
  refine y_V0 [_] _ kX6_106 (c_readFromC rfl hL hL4) rfl isCus5.1 dX6_custom_8 rfl rfl (Nat.le_of_ble_eq_true rfl) (Nat.le_of_ble_eq_true rfl) ⟨Nat.zero_le _, Nat.zero_le _⟩ ?_
  refine z_aload_n 0 dX6_custom_11 rfl rfl ?_
  refine y_getR fX6_10 dX6_custom_12 rfl rfl ?_
  refine z_iconst 0 dX6_custom_15 (by decide) ?_
  refine y_putI fX6_78 dX6_custom_16 rfl rfl ?_
  refine y_mem (m1 := sk_c2 m L) rfl ?_
  refine z_aload_n 0 dX6_custom_19 rfl rfl ?_
  refine y_getR fX6_10 dX6_custom_20 rfl rfl ?_
  refine y_getI fX6_90 dX6_custom_23 rfl rfl ?_
  refine z_if_eq 40 dX6_custom_26 (by decide) (fun c_1 => ?_) (fun c_1 => ?_)
  · refine z_aload_n 0 dX6_custom_40 rfl rfl ?_
    refine y_getR fX6_19 dX6_custom_41 rfl rfl ?_
    refine z_aload_n 0 dX6_custom_44 rfl rfl ?_
    refine y_getR fX6_23 dX6_custom_45 rfl rfl ?_
    refine y_V0 [_] _ kX6_107 (c_copyFromC isCus5 isCus3) rfl isCus3.1 dX6_custom_48 rfl rfl (Nat.le_of_ble_eq_true rfl) (Nat.le_of_ble_eq_true rfl) ⟨Nat.zero_le _, Nat.zero_le _⟩ ?_
    refine z_aload_n 0 dX6_custom_51 rfl rfl ?_
    refine y_getR fX6_19 dX6_custom_52 rfl rfl ?_
    refine y_getI fX6_110 dX6_custom_55 isCus3.1 rfl ?_
    exact y_iret dX6_custom_58 rfl (by first | (simp [sk_custom, c_1]; done) | (rw [sk_custom, if_pos c_1]; rfl)) (by first | (simp [sk_custom, c_1]; done) | (rw [sk_custom, if_pos c_1]; rfl))
  · refine z_bipush (-10) dX6_custom_29 (by decide) ?_
    refine z_aload_n 0 dX6_custom_31 rfl rfl ?_
    refine y_getR fX6_10 dX6_custom_32 rfl rfl ?_
    refine y_getI fX6_90 dX6_custom_35 rfl rfl ?_
    refine z_isub dX6_custom_38 ?_
    exact y_iret dX6_custom_39 rfl (by first | (simp [sk_custom, c_1]; done) | (rw [sk_custom, if_pos c_1]; rfl)) (by first | (simp [sk_custom, c_1]; done) | (rw [sk_custom, if_pos c_1]; rfl))
