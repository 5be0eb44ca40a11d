/-! the reference: words, numbers, ends -/
theorem want_ne {m : zmem} {g n w : Int32} {j : Nat} (h : j ≠ 16) (h2 : j ≠ 17) : rwant m g n w 57 j = m 57 j := by
  unfold rwant
  split
  · rfl
  · split
    · rfl
    · rw [mset_ne _ (fun q => h2 q.2), mset_ne _ (fun q => h q.2)]
theorem want_cell {m : zmem} {g n w : Int32} {q : Nat} (h : q ≠ 57) : rwant m g n w q = m q := by
  unfold rwant
  split
  · rfl
  · split
    · rfl
    · rw [mset_cell _ h, mset_cell _ h]
theorem rtw0_at (m : zmem) : rtw0 m 57 13 = Int32.ofNat (rblk m) := by rw [rtw0, mset_ne _ (by decide), rat, mset_eq]
theorem rtw0_first (m : zmem) : rtw0 m 57 14 = Int32.ofNat (rblk m) := mset_eq _ _ _ _
theorem rtw0_ne (m : zmem) {j : Nat} (h : j ≠ 13) (h2 : j ≠ 14) : rtw0 m 57 j = m 57 j := by rw [rtw0, mset_ne _ (fun q => h2 q.2), rat, mset_ne _ (fun q => h q.2)]
theorem rtw0_cell (m : zmem) {q : Nat} (h : q ≠ 57) : rtw0 m q = m q := by rw [rtw0, mset_cell _ h, rat, mset_cell _ h]
theorem rnm0_ne (m : zmem) {j : Nat} (h : j ≠ 16) (h2 : j ≠ 17) : rnm0 m 57 j = rtw0 m 57 j := want_ne h h2
theorem rnm0_cell (m : zmem) {q : Nat} (h : q ≠ 57) : rnm0 m q = m q := (want_cell h).trans (rtw0_cell m h)
theorem rat_ne {m : zmem} {k j : Nat} (h : j ≠ 13) : rat m k 57 j = m 57 j := mset_ne _ (fun q => h q.2)
theorem rat_cell {m : zmem} {k q : Nat} (h : q ≠ 57) : rat m k q = m q := mset_cell _ h
theorem ofNat_inj {a b : Nat} (h : Int32.ofNat a = Int32.ofNat b) (ha : a < 2147483648) (hb : b < 2147483648) : a = b := by
  have := congrArg Int32.toInt h
  rw [nat_toInt ha, nat_toInt hb] at this
  omega
set_option maxRecDepth 100000 in
set_option maxHeartbeats 4000000 in
theorem c7_isw {m : zmem} {F Ln N : Nat} {a b c d e : Int32} (hF : m 57 14 = Int32.ofNat F) (hLn : m 57 15 = Int32.ofNat Ln) (hFL : F + Ln ≤ 400) (hN : N ≤ 5) : Ei MX7_isWord 0 [.ref 57, .int (Int32.ofNat N), .int a, .int b, .int c, .int d, .int e] m (risw (m 66) F a b c d e N 0 (if m 57 15 = Int32.ofNat N then 1 else 0)) (m) := by
  refine Ei.of (by decide) (Nat.le_of_ble_eq_true rfl) ?_
  show Z _ 0 [(0, .ref 57), (1, .int (Int32.ofNat N)), (2, .int a), (3, .int b), (4, .int c), (5, .int d), (6, .int e)] _ _ _ _
  refine z_aload_n 0 dX7_isWord_0 rfl rfl ?_
  refine y_getI fX7_105 dX7_isWord_1 rfl rfl ?_
  refine z_iload_n 1 dX7_isWord_4 rfl rfl ?_
  refine z_icmp_ne 12 dX7_isWord_5 (by decide) (fun c_1 => ?_) (fun c_1 => ?_)
  · refine z_iconst 0 dX7_isWord_12 (by decide) ?_
    refine z_istore (lv' := [(7, .int 0), (0, .ref 57), (1, .int (Int32.ofNat N)), (2, .int a), (3, .int b), (4, .int c), (5, .int d), (6, .int e)]) dX7_isWord_13 (Nat.le_of_ble_eq_true rfl) rfl ?_
    refine z_iconst 0 dX7_isWord_15 (by decide) ?_
    refine z_istore (lv' := [(8, .int 0), (7, .int 0), (0, .ref 57), (1, .int (Int32.ofNat N)), (2, .int a), (3, .int b), (4, .int c), (5, .int d), (6, .int e)]) dX7_isWord_16 (Nat.le_of_ble_eq_true rfl) rfl ?_
    have loop18 : ∀ (n : Nat) (k : Nat) (s : Int32), k + n = N → (s = 0 ∨ s = 1) → (¬ s = 0 → Ln = N) → risw (m 66) F a b c d e N 0 (if m 57 15 = Int32.ofNat N then 1 else 0) = risw (m 66) F a b c d e n k s → Z (zMB (Qi (risw (m 66) F a b c d e N 0 (if m 57 15 = Int32.ofNat N then 1 else 0)) (m)) 0 MX7_isWord) 18 [(0, .ref 57), (1, .int (Int32.ofNat N)), (2, .int a), (3, .int b), (4, .int c), (5, .int d), (6, .int e), (7, .int s), (8, .int (Int32.ofNat k))] [] (hp m) 0 0 := by
      intro n
      induction n with
      | zero =>
        intro k s hk hs01 hsl hr
        refine z_iload 8 dX7_isWord_18 rfl ?_
        refine z_iload_n 1 dX7_isWord_20 rfl rfl ?_
        refine z_icmp_ge 100 dX7_isWord_21 (by decide) (fun c_2 => ?_) (fun c_2 => ?_)
        · refine z_iload 7 dX7_isWord_100 rfl ?_
          exact y_zret dX7_isWord_102 rfl hs01 (by first | exact hr.symm | (rw [hr]; simp only [risw, c_1, c_2, if_true])) rfl
        · exact (dz rfl (b := Int32.ofNat N) (N := N) rfl (by omega) (by omega) c_2).elim
      | succ n ih18 =>
        intro k s hk hs01 hsl hr
        refine z_iload 8 dX7_isWord_18 rfl ?_
        refine z_iload_n 1 dX7_isWord_20 rfl rfl ?_
        refine z_icmp_ge 100 dX7_isWord_21 (by decide) (fun c_3 => ?_) (fun c_3 => ?_)
        · exact (ds rfl (b := Int32.ofNat N) (N := N) rfl (by omega) (by omega) c_3).elim
        · refine z_iload 7 dX7_isWord_24 rfl ?_
          refine z_if_eq 100 dX7_isWord_26 (by decide) (fun c_4 => ?_) (fun c_4 => ?_)
          · refine z_iload 7 dX7_isWord_100 rfl ?_
            exact y_zret dX7_isWord_102 rfl hs01 (by first | exact hr.symm | (rw [hr]; simp only [risw, c_1, c_3, c_4, if_true])) rfl
          · refine z_aload_n 0 dX7_isWord_29 rfl rfl ?_
            refine y_getR fX7_42 dX7_isWord_30 rfl rfl ?_
            refine z_aload_n 0 dX7_isWord_33 rfl rfl ?_
            refine y_getI fX7_98 dX7_isWord_34 rfl rfl ?_
            refine z_itop (y := (Int32.ofNat F)) hF ?_
            refine z_iload 8 dX7_isWord_37 rfl ?_
            refine z_iadd dX7_isWord_39 ?_
            refine y_ald (N := F + k) dX7_isWord_40 rfl (Int32.ofNat_add F k).symm (by have := hsl (by assumption); omega) ?_
            refine z_iload 8 dX7_isWord_41 rfl ?_
            refine z_if_ne 50 dX7_isWord_43 (by decide) (fun c_5 => ?_) (fun c_5 => ?_)
            · refine z_iload 8 dX7_isWord_50 rfl ?_
              refine z_iconst 1 dX7_isWord_52 (by decide) ?_
              refine z_icmp_ne 60 dX7_isWord_53 (by decide) (fun c_6 => ?_) (fun c_6 => ?_)
              · refine z_iload 8 dX7_isWord_60 rfl ?_
                refine z_iconst 2 dX7_isWord_62 (by decide) ?_
                refine z_icmp_ne 71 dX7_isWord_63 (by decide) (fun c_7 => ?_) (fun c_7 => ?_)
                · refine z_iload 8 dX7_isWord_71 rfl ?_
                  refine z_iconst 3 dX7_isWord_73 (by decide) ?_
                  refine z_icmp_ne 82 dX7_isWord_74 (by decide) (fun c_8 => ?_) (fun c_8 => ?_)
                  · refine z_iload 6 dX7_isWord_82 rfl ?_
                    refine z_icmp_ne 91 dX7_isWord_84 (by decide) (fun c_9 => ?_) (fun c_9 => ?_)
                    · refine z_iconst 0 dX7_isWord_91 (by decide) ?_
                      refine z_istore (lv' := [(7, .int 0), (0, .ref 57), (1, .int (Int32.ofNat N)), (2, .int a), (3, .int b), (4, .int c), (5, .int d), (6, .int e), (8, .int (Int32.ofNat k))]) dX7_isWord_92 (Nat.le_of_ble_eq_true rfl) rfl ?_
                      obtain ⟨v_10, e_10⟩ : ∃ y : Int32, y = (Int32.ofNat k) + 1 := ⟨_, rfl⟩
                      refine z_iinc (lv' := [(8, .int v_10), (7, .int 0), (0, .ref 57), (1, .int (Int32.ofNat N)), (2, .int a), (3, .int b), (4, .int c), (5, .int d), (6, .int e)]) 8 v_10 dX7_isWord_94 rfl (by rw [e_10]; rfl) (Nat.le_of_ble_eq_true rfl) rfl ?_
                      refine z_goto 18 dX7_isWord_97 (by decide) ?_
                      obtain rfl : v_10 = Int32.ofNat (k + 1) := e_10.trans (nat_succ k)
                      refine z_sub [2,3,4,5,6,7,8,1,0] rfl ?_
                      exact ih18 (k + 1) _ (by omega) (by decide) (fun _ => hsl (by assumption)) (hr.trans (by simp only [risw, rlet, c_3, c_4, c_5, c_6, c_7, c_8, c_9, eq_self, if_true, not_true_eq_false, not_false_eq_true, if_false, reduceIte] <;> simp [c_3, c_4, c_5, c_6, c_7, c_8, c_9]))
                    · refine z_iconst 1 dX7_isWord_87 (by decide) ?_
                      refine z_goto 92 dX7_isWord_88 (by decide) ?_
                      refine z_istore (lv' := [(7, .int 1), (0, .ref 57), (1, .int (Int32.ofNat N)), (2, .int a), (3, .int b), (4, .int c), (5, .int d), (6, .int e), (8, .int (Int32.ofNat k))]) dX7_isWord_92 (Nat.le_of_ble_eq_true rfl) rfl ?_
                      obtain ⟨v_11, e_11⟩ : ∃ y : Int32, y = (Int32.ofNat k) + 1 := ⟨_, rfl⟩
                      refine z_iinc (lv' := [(8, .int v_11), (7, .int 1), (0, .ref 57), (1, .int (Int32.ofNat N)), (2, .int a), (3, .int b), (4, .int c), (5, .int d), (6, .int e)]) 8 v_11 dX7_isWord_94 rfl (by rw [e_11]; rfl) (Nat.le_of_ble_eq_true rfl) rfl ?_
                      refine z_goto 18 dX7_isWord_97 (by decide) ?_
                      obtain rfl : v_11 = Int32.ofNat (k + 1) := e_11.trans (nat_succ k)
                      refine z_sub [2,3,4,5,6,7,8,1,0] rfl ?_
                      exact ih18 (k + 1) _ (by omega) (by decide) (fun _ => hsl (by assumption)) (hr.trans (by simp only [risw, rlet, c_3, c_4, c_5, c_6, c_7, c_8, c_9, eq_self, if_true, not_true_eq_false, not_false_eq_true, if_false, reduceIte] <;> simp [c_3, c_4, c_5, c_6, c_7, c_8, c_9]))
                  · refine z_iload 5 dX7_isWord_77 rfl ?_
                    refine z_goto 84 dX7_isWord_79 (by decide) ?_
                    refine z_icmp_ne 91 dX7_isWord_84 (by decide) (fun c_12 => ?_) (fun c_12 => ?_)
                    · refine z_iconst 0 dX7_isWord_91 (by decide) ?_
                      refine z_istore (lv' := [(7, .int 0), (0, .ref 57), (1, .int (Int32.ofNat N)), (2, .int a), (3, .int b), (4, .int c), (5, .int d), (6, .int e), (8, .int (Int32.ofNat k))]) dX7_isWord_92 (Nat.le_of_ble_eq_true rfl) rfl ?_
                      obtain ⟨v_13, e_13⟩ : ∃ y : Int32, y = (Int32.ofNat k) + 1 := ⟨_, rfl⟩
                      refine z_iinc (lv' := [(8, .int v_13), (7, .int 0), (0, .ref 57), (1, .int (Int32.ofNat N)), (2, .int a), (3, .int b), (4, .int c), (5, .int d), (6, .int e)]) 8 v_13 dX7_isWord_94 rfl (by rw [e_13]; rfl) (Nat.le_of_ble_eq_true rfl) rfl ?_
                      refine z_goto 18 dX7_isWord_97 (by decide) ?_
                      obtain rfl : v_13 = Int32.ofNat (k + 1) := e_13.trans (nat_succ k)
                      refine z_sub [2,3,4,5,6,7,8,1,0] rfl ?_
                      exact ih18 (k + 1) _ (by omega) (by decide) (fun _ => hsl (by assumption)) (hr.trans (by simp only [risw, rlet, c_3, c_4, c_5, c_6, c_7, c_8, c_12, eq_self, if_true, not_true_eq_false, not_false_eq_true, if_false, reduceIte] <;> simp [c_3, c_4, c_5, c_6, c_7, c_8, c_12]))
                    · refine z_iconst 1 dX7_isWord_87 (by decide) ?_
                      refine z_goto 92 dX7_isWord_88 (by decide) ?_
                      refine z_istore (lv' := [(7, .int 1), (0, .ref 57), (1, .int (Int32.ofNat N)), (2, .int a), (3, .int b), (4, .int c), (5, .int d), (6, .int e), (8, .int (Int32.ofNat k))]) dX7_isWord_92 (Nat.le_of_ble_eq_true rfl) rfl ?_
                      obtain ⟨v_14, e_14⟩ : ∃ y : Int32, y = (Int32.ofNat k) + 1 := ⟨_, rfl⟩
                      refine z_iinc (lv' := [(8, .int v_14), (7, .int 1), (0, .ref 57), (1, .int (Int32.ofNat N)), (2, .int a), (3, .int b), (4, .int c), (5, .int d), (6, .int e)]) 8 v_14 dX7_isWord_94 rfl (by rw [e_14]; rfl) (Nat.le_of_ble_eq_true rfl) rfl ?_
                      refine z_goto 18 dX7_isWord_97 (by decide) ?_
                      obtain rfl : v_14 = Int32.ofNat (k + 1) := e_14.trans (nat_succ k)
                      refine z_sub [2,3,4,5,6,7,8,1,0] rfl ?_
                      exact ih18 (k + 1) _ (by omega) (by decide) (fun _ => hsl (by assumption)) (hr.trans (by simp only [risw, rlet, c_3, c_4, c_5, c_6, c_7, c_8, c_12, eq_self, if_true, not_true_eq_false, not_false_eq_true, if_false, reduceIte] <;> simp [c_3, c_4, c_5, c_6, c_7, c_8, c_12]))
                · refine z_iload 4 dX7_isWord_66 rfl ?_
                  refine z_goto 84 dX7_isWord_68 (by decide) ?_
                  refine z_icmp_ne 91 dX7_isWord_84 (by decide) (fun c_15 => ?_) (fun c_15 => ?_)
                  · refine z_iconst 0 dX7_isWord_91 (by decide) ?_
                    refine z_istore (lv' := [(7, .int 0), (0, .ref 57), (1, .int (Int32.ofNat N)), (2, .int a), (3, .int b), (4, .int c), (5, .int d), (6, .int e), (8, .int (Int32.ofNat k))]) dX7_isWord_92 (Nat.le_of_ble_eq_true rfl) rfl ?_
                    obtain ⟨v_16, e_16⟩ : ∃ y : Int32, y = (Int32.ofNat k) + 1 := ⟨_, rfl⟩
                    refine z_iinc (lv' := [(8, .int v_16), (7, .int 0), (0, .ref 57), (1, .int (Int32.ofNat N)), (2, .int a), (3, .int b), (4, .int c), (5, .int d), (6, .int e)]) 8 v_16 dX7_isWord_94 rfl (by rw [e_16]; rfl) (Nat.le_of_ble_eq_true rfl) rfl ?_
                    refine z_goto 18 dX7_isWord_97 (by decide) ?_
                    obtain rfl : v_16 = Int32.ofNat (k + 1) := e_16.trans (nat_succ k)
                    refine z_sub [2,3,4,5,6,7,8,1,0] rfl ?_
                    exact ih18 (k + 1) _ (by omega) (by decide) (fun _ => hsl (by assumption)) (hr.trans (by simp only [risw, rlet, c_3, c_4, c_5, c_6, c_7, c_15, eq_self, if_true, not_true_eq_false, not_false_eq_true, if_false, reduceIte] <;> simp [c_3, c_4, c_5, c_6, c_7, c_15]))
                  · refine z_iconst 1 dX7_isWord_87 (by decide) ?_
                    refine z_goto 92 dX7_isWord_88 (by decide) ?_
                    refine z_istore (lv' := [(7, .int 1), (0, .ref 57), (1, .int (Int32.ofNat N)), (2, .int a), (3, .int b), (4, .int c), (5, .int d), (6, .int e), (8, .int (Int32.ofNat k))]) dX7_isWord_92 (Nat.le_of_ble_eq_true rfl) rfl ?_
                    obtain ⟨v_17, e_17⟩ : ∃ y : Int32, y = (Int32.ofNat k) + 1 := ⟨_, rfl⟩
                    refine z_iinc (lv' := [(8, .int v_17), (7, .int 1), (0, .ref 57), (1, .int (Int32.ofNat N)), (2, .int a), (3, .int b), (4, .int c), (5, .int d), (6, .int e)]) 8 v_17 dX7_isWord_94 rfl (by rw [e_17]; rfl) (Nat.le_of_ble_eq_true rfl) rfl ?_
                    refine z_goto 18 dX7_isWord_97 (by decide) ?_
                    obtain rfl : v_17 = Int32.ofNat (k + 1) := e_17.trans (nat_succ k)
                    refine z_sub [2,3,4,5,6,7,8,1,0] rfl ?_
                    exact ih18 (k + 1) _ (by omega) (by decide) (fun _ => hsl (by assumption)) (hr.trans (by simp only [risw, rlet, c_3, c_4, c_5, c_6, c_7, c_15, eq_self, if_true, not_true_eq_false, not_false_eq_true, if_false, reduceIte] <;> simp [c_3, c_4, c_5, c_6, c_7, c_15]))
              · refine z_iload_n 3 dX7_isWord_56 rfl rfl ?_
                refine z_goto 84 dX7_isWord_57 (by decide) ?_
                refine z_icmp_ne 91 dX7_isWord_84 (by decide) (fun c_18 => ?_) (fun c_18 => ?_)
                · refine z_iconst 0 dX7_isWord_91 (by decide) ?_
                  refine z_istore (lv' := [(7, .int 0), (0, .ref 57), (1, .int (Int32.ofNat N)), (2, .int a), (3, .int b), (4, .int c), (5, .int d), (6, .int e), (8, .int (Int32.ofNat k))]) dX7_isWord_92 (Nat.le_of_ble_eq_true rfl) rfl ?_
                  obtain ⟨v_19, e_19⟩ : ∃ y : Int32, y = (Int32.ofNat k) + 1 := ⟨_, rfl⟩
                  refine z_iinc (lv' := [(8, .int v_19), (7, .int 0), (0, .ref 57), (1, .int (Int32.ofNat N)), (2, .int a), (3, .int b), (4, .int c), (5, .int d), (6, .int e)]) 8 v_19 dX7_isWord_94 rfl (by rw [e_19]; rfl) (Nat.le_of_ble_eq_true rfl) rfl ?_
                  refine z_goto 18 dX7_isWord_97 (by decide) ?_
                  obtain rfl : v_19 = Int32.ofNat (k + 1) := e_19.trans (nat_succ k)
                  refine z_sub [2,3,4,5,6,7,8,1,0] rfl ?_
                  exact ih18 (k + 1) _ (by omega) (by decide) (fun _ => hsl (by assumption)) (hr.trans (by simp only [risw, rlet, c_3, c_4, c_5, c_6, c_18, eq_self, if_true, not_true_eq_false, not_false_eq_true, if_false, reduceIte] <;> simp [c_3, c_4, c_5, c_6, c_18]))
                · refine z_iconst 1 dX7_isWord_87 (by decide) ?_
                  refine z_goto 92 dX7_isWord_88 (by decide) ?_
                  refine z_istore (lv' := [(7, .int 1), (0, .ref 57), (1, .int (Int32.ofNat N)), (2, .int a), (3, .int b), (4, .int c), (5, .int d), (6, .int e), (8, .int (Int32.ofNat k))]) dX7_isWord_92 (Nat.le_of_ble_eq_true rfl) rfl ?_
                  obtain ⟨v_20, e_20⟩ : ∃ y : Int32, y = (Int32.ofNat k) + 1 := ⟨_, rfl⟩
                  refine z_iinc (lv' := [(8, .int v_20), (7, .int 1), (0, .ref 57), (1, .int (Int32.ofNat N)), (2, .int a), (3, .int b), (4, .int c), (5, .int d), (6, .int e)]) 8 v_20 dX7_isWord_94 rfl (by rw [e_20]; rfl) (Nat.le_of_ble_eq_true rfl) rfl ?_
                  refine z_goto 18 dX7_isWord_97 (by decide) ?_
                  obtain rfl : v_20 = Int32.ofNat (k + 1) := e_20.trans (nat_succ k)
                  refine z_sub [2,3,4,5,6,7,8,1,0] rfl ?_
                  exact ih18 (k + 1) _ (by omega) (by decide) (fun _ => hsl (by assumption)) (hr.trans (by simp only [risw, rlet, c_3, c_4, c_5, c_6, c_18, eq_self, if_true, not_true_eq_false, not_false_eq_true, if_false, reduceIte] <;> simp [c_3, c_4, c_5, c_6, c_18]))
            · refine z_iload_n 2 dX7_isWord_46 rfl rfl ?_
              refine z_goto 84 dX7_isWord_47 (by decide) ?_
              refine z_icmp_ne 91 dX7_isWord_84 (by decide) (fun c_21 => ?_) (fun c_21 => ?_)
              · refine z_iconst 0 dX7_isWord_91 (by decide) ?_
                refine z_istore (lv' := [(7, .int 0), (0, .ref 57), (1, .int (Int32.ofNat N)), (2, .int a), (3, .int b), (4, .int c), (5, .int d), (6, .int e), (8, .int (Int32.ofNat k))]) dX7_isWord_92 (Nat.le_of_ble_eq_true rfl) rfl ?_
                obtain ⟨v_22, e_22⟩ : ∃ y : Int32, y = (Int32.ofNat k) + 1 := ⟨_, rfl⟩
                refine z_iinc (lv' := [(8, .int v_22), (7, .int 0), (0, .ref 57), (1, .int (Int32.ofNat N)), (2, .int a), (3, .int b), (4, .int c), (5, .int d), (6, .int e)]) 8 v_22 dX7_isWord_94 rfl (by rw [e_22]; rfl) (Nat.le_of_ble_eq_true rfl) rfl ?_
                refine z_goto 18 dX7_isWord_97 (by decide) ?_
                obtain rfl : v_22 = Int32.ofNat (k + 1) := e_22.trans (nat_succ k)
                refine z_sub [2,3,4,5,6,7,8,1,0] rfl ?_
                exact ih18 (k + 1) _ (by omega) (by decide) (fun _ => hsl (by assumption)) (hr.trans (by simp only [risw, rlet, c_3, c_4, c_5, c_21, eq_self, if_true, not_true_eq_false, not_false_eq_true, if_false, reduceIte] <;> simp [c_3, c_4, c_5, c_21]))
              · refine z_iconst 1 dX7_isWord_87 (by decide) ?_
                refine z_goto 92 dX7_isWord_88 (by decide) ?_
                refine z_istore (lv' := [(7, .int 1), (0, .ref 57), (1, .int (Int32.ofNat N)), (2, .int a), (3, .int b), (4, .int c), (5, .int d), (6, .int e), (8, .int (Int32.ofNat k))]) dX7_isWord_92 (Nat.le_of_ble_eq_true rfl) rfl ?_
                obtain ⟨v_23, e_23⟩ : ∃ y : Int32, y = (Int32.ofNat k) + 1 := ⟨_, rfl⟩
                refine z_iinc (lv' := [(8, .int v_23), (7, .int 1), (0, .ref 57), (1, .int (Int32.ofNat N)), (2, .int a), (3, .int b), (4, .int c), (5, .int d), (6, .int e)]) 8 v_23 dX7_isWord_94 rfl (by rw [e_23]; rfl) (Nat.le_of_ble_eq_true rfl) rfl ?_
                refine z_goto 18 dX7_isWord_97 (by decide) ?_
                obtain rfl : v_23 = Int32.ofNat (k + 1) := e_23.trans (nat_succ k)
                refine z_sub [2,3,4,5,6,7,8,1,0] rfl ?_
                exact ih18 (k + 1) _ (by omega) (by decide) (fun _ => hsl (by assumption)) (hr.trans (by simp only [risw, rlet, c_3, c_4, c_5, c_21, eq_self, if_true, not_true_eq_false, not_false_eq_true, if_false, reduceIte] <;> simp [c_3, c_4, c_5, c_21]))
    refine z_sub [2,3,4,5,6,7,8,1,0] rfl ?_
    exact loop18 (N) 0 _ (by omega) (by decide) (fun q => by first | exact absurd rfl q | exact ofNat_inj (hLn.symm.trans (by assumption)) (by omega) (by omega)) (by simp only [c_1, if_true, if_false])
  · refine z_iconst 1 dX7_isWord_8 (by decide) ?_
    refine z_goto 13 dX7_isWord_9 (by decide) ?_
    refine z_istore (lv' := [(7, .int 1), (0, .ref 57), (1, .int (Int32.ofNat N)), (2, .int a), (3, .int b), (4, .int c), (5, .int d), (6, .int e)]) dX7_isWord_13 (Nat.le_of_ble_eq_true rfl) rfl ?_
    refine z_iconst 0 dX7_isWord_15 (by decide) ?_
    refine z_istore (lv' := [(8, .int 0), (7, .int 1), (0, .ref 57), (1, .int (Int32.ofNat N)), (2, .int a), (3, .int b), (4, .int c), (5, .int d), (6, .int e)]) dX7_isWord_16 (Nat.le_of_ble_eq_true rfl) rfl ?_
    have loop18 : ∀ (n : Nat) (k : Nat) (s : Int32), k + n = N → (s = 0 ∨ s = 1) → (¬ s = 0 → Ln = N) → risw (m 66) F a b c d e N 0 (if m 57 15 = Int32.ofNat N then 1 else 0) = risw (m 66) F a b c d e n k s → Z (zMB (Qi (risw (m 66) F a b c d e N 0 (if m 57 15 = Int32.ofNat N then 1 else 0)) (m)) 0 MX7_isWord) 18 [(0, .ref 57), (1, .int (Int32.ofNat N)), (2, .int a), (3, .int b), (4, .int c), (5, .int d), (6, .int e), (7, .int s), (8, .int (Int32.ofNat k))] [] (hp m) 0 0 := by
      intro n
      induction n with
      | zero =>
        intro k s hk hs01 hsl hr
        refine z_iload 8 dX7_isWord_18 rfl ?_
        refine z_iload_n 1 dX7_isWord_20 rfl rfl ?_
        refine z_icmp_ge 100 dX7_isWord_21 (by decide) (fun c_24 => ?_) (fun c_24 => ?_)
        · refine z_iload 7 dX7_isWord_100 rfl ?_
          exact y_zret dX7_isWord_102 rfl hs01 (by first | exact hr.symm | (rw [hr]; simp only [risw, c_1, c_24, if_true])) rfl
        · exact (dz rfl (b := Int32.ofNat N) (N := N) rfl (by omega) (by omega) c_24).elim
      | succ n ih18 =>
        intro k s hk hs01 hsl hr
        refine z_iload 8 dX7_isWord_18 rfl ?_
        refine z_iload_n 1 dX7_isWord_20 rfl rfl ?_
        refine z_icmp_ge 100 dX7_isWord_21 (by decide) (fun c_25 => ?_) (fun c_25 => ?_)
        · exact (ds rfl (b := Int32.ofNat N) (N := N) rfl (by omega) (by omega) c_25).elim
        · refine z_iload 7 dX7_isWord_24 rfl ?_
          refine z_if_eq 100 dX7_isWord_26 (by decide) (fun c_26 => ?_) (fun c_26 => ?_)
          · refine z_iload 7 dX7_isWord_100 rfl ?_
            exact y_zret dX7_isWord_102 rfl hs01 (by first | exact hr.symm | (rw [hr]; simp only [risw, c_1, c_25, c_26, if_true])) rfl
          · refine z_aload_n 0 dX7_isWord_29 rfl rfl ?_
            refine y_getR fX7_42 dX7_isWord_30 rfl rfl ?_
            refine z_aload_n 0 dX7_isWord_33 rfl rfl ?_
            refine y_getI fX7_98 dX7_isWord_34 rfl rfl ?_
            refine z_itop (y := (Int32.ofNat F)) hF ?_
            refine z_iload 8 dX7_isWord_37 rfl ?_
            refine z_iadd dX7_isWord_39 ?_
            refine y_ald (N := F + k) dX7_isWord_40 rfl (Int32.ofNat_add F k).symm (by have := hsl (by assumption); omega) ?_
            refine z_iload 8 dX7_isWord_41 rfl ?_
            refine z_if_ne 50 dX7_isWord_43 (by decide) (fun c_27 => ?_) (fun c_27 => ?_)
            · refine z_iload 8 dX7_isWord_50 rfl ?_
              refine z_iconst 1 dX7_isWord_52 (by decide) ?_
              refine z_icmp_ne 60 dX7_isWord_53 (by decide) (fun c_28 => ?_) (fun c_28 => ?_)
              · refine z_iload 8 dX7_isWord_60 rfl ?_
                refine z_iconst 2 dX7_isWord_62 (by decide) ?_
                refine z_icmp_ne 71 dX7_isWord_63 (by decide) (fun c_29 => ?_) (fun c_29 => ?_)
                · refine z_iload 8 dX7_isWord_71 rfl ?_
                  refine z_iconst 3 dX7_isWord_73 (by decide) ?_
                  refine z_icmp_ne 82 dX7_isWord_74 (by decide) (fun c_30 => ?_) (fun c_30 => ?_)
                  · refine z_iload 6 dX7_isWord_82 rfl ?_
                    refine z_icmp_ne 91 dX7_isWord_84 (by decide) (fun c_31 => ?_) (fun c_31 => ?_)
                    · refine z_iconst 0 dX7_isWord_91 (by decide) ?_
                      refine z_istore (lv' := [(7, .int 0), (0, .ref 57), (1, .int (Int32.ofNat N)), (2, .int a), (3, .int b), (4, .int c), (5, .int d), (6, .int e), (8, .int (Int32.ofNat k))]) dX7_isWord_92 (Nat.le_of_ble_eq_true rfl) rfl ?_
                      obtain ⟨v_32, e_32⟩ : ∃ y : Int32, y = (Int32.ofNat k) + 1 := ⟨_, rfl⟩
                      refine z_iinc (lv' := [(8, .int v_32), (7, .int 0), (0, .ref 57), (1, .int (Int32.ofNat N)), (2, .int a), (3, .int b), (4, .int c), (5, .int d), (6, .int e)]) 8 v_32 dX7_isWord_94 rfl (by rw [e_32]; rfl) (Nat.le_of_ble_eq_true rfl) rfl ?_
                      refine z_goto 18 dX7_isWord_97 (by decide) ?_
                      obtain rfl : v_32 = Int32.ofNat (k + 1) := e_32.trans (nat_succ k)
                      refine z_sub [2,3,4,5,6,7,8,1,0] rfl ?_
                      exact ih18 (k + 1) _ (by omega) (by decide) (fun _ => hsl (by assumption)) (hr.trans (by simp only [risw, rlet, c_25, c_26, c_27, c_28, c_29, c_30, c_31, eq_self, if_true, not_true_eq_false, not_false_eq_true, if_false, reduceIte] <;> simp [c_25, c_26, c_27, c_28, c_29, c_30, c_31]))
                    · refine z_iconst 1 dX7_isWord_87 (by decide) ?_
                      refine z_goto 92 dX7_isWord_88 (by decide) ?_
                      refine z_istore (lv' := [(7, .int 1), (0, .ref 57), (1, .int (Int32.ofNat N)), (2, .int a), (3, .int b), (4, .int c), (5, .int d), (6, .int e), (8, .int (Int32.ofNat k))]) dX7_isWord_92 (Nat.le_of_ble_eq_true rfl) rfl ?_
                      obtain ⟨v_33, e_33⟩ : ∃ y : Int32, y = (Int32.ofNat k) + 1 := ⟨_, rfl⟩
                      refine z_iinc (lv' := [(8, .int v_33), (7, .int 1), (0, .ref 57), (1, .int (Int32.ofNat N)), (2, .int a), (3, .int b), (4, .int c), (5, .int d), (6, .int e)]) 8 v_33 dX7_isWord_94 rfl (by rw [e_33]; rfl) (Nat.le_of_ble_eq_true rfl) rfl ?_
                      refine z_goto 18 dX7_isWord_97 (by decide) ?_
                      obtain rfl : v_33 = Int32.ofNat (k + 1) := e_33.trans (nat_succ k)
                      refine z_sub [2,3,4,5,6,7,8,1,0] rfl ?_
                      exact ih18 (k + 1) _ (by omega) (by decide) (fun _ => hsl (by assumption)) (hr.trans (by simp only [risw, rlet, c_25, c_26, c_27, c_28, c_29, c_30, c_31, eq_self, if_true, not_true_eq_false, not_false_eq_true, if_false, reduceIte] <;> simp [c_25, c_26, c_27, c_28, c_29, c_30, c_31]))
                  · refine z_iload 5 dX7_isWord_77 rfl ?_
                    refine z_goto 84 dX7_isWord_79 (by decide) ?_
                    refine z_icmp_ne 91 dX7_isWord_84 (by decide) (fun c_34 => ?_) (fun c_34 => ?_)
                    · refine z_iconst 0 dX7_isWord_91 (by decide) ?_
                      refine z_istore (lv' := [(7, .int 0), (0, .ref 57), (1, .int (Int32.ofNat N)), (2, .int a), (3, .int b), (4, .int c), (5, .int d), (6, .int e), (8, .int (Int32.ofNat k))]) dX7_isWord_92 (Nat.le_of_ble_eq_true rfl) rfl ?_
                      obtain ⟨v_35, e_35⟩ : ∃ y : Int32, y = (Int32.ofNat k) + 1 := ⟨_, rfl⟩
                      refine z_iinc (lv' := [(8, .int v_35), (7, .int 0), (0, .ref 57), (1, .int (Int32.ofNat N)), (2, .int a), (3, .int b), (4, .int c), (5, .int d), (6, .int e)]) 8 v_35 dX7_isWord_94 rfl (by rw [e_35]; rfl) (Nat.le_of_ble_eq_true rfl) rfl ?_
                      refine z_goto 18 dX7_isWord_97 (by decide) ?_
                      obtain rfl : v_35 = Int32.ofNat (k + 1) := e_35.trans (nat_succ k)
                      refine z_sub [2,3,4,5,6,7,8,1,0] rfl ?_
                      exact ih18 (k + 1) _ (by omega) (by decide) (fun _ => hsl (by assumption)) (hr.trans (by simp only [risw, rlet, c_25, c_26, c_27, c_28, c_29, c_30, c_34, eq_self, if_true, not_true_eq_false, not_false_eq_true, if_false, reduceIte] <;> simp [c_25, c_26, c_27, c_28, c_29, c_30, c_34]))
                    · refine z_iconst 1 dX7_isWord_87 (by decide) ?_
                      refine z_goto 92 dX7_isWord_88 (by decide) ?_
                      refine z_istore (lv' := [(7, .int 1), (0, .ref 57), (1, .int (Int32.ofNat N)), (2, .int a), (3, .int b), (4, .int c), (5, .int d), (6, .int e), (8, .int (Int32.ofNat k))]) dX7_isWord_92 (Nat.le_of_ble_eq_true rfl) rfl ?_
                      obtain ⟨v_36, e_36⟩ : ∃ y : Int32, y = (Int32.ofNat k) + 1 := ⟨_, rfl⟩
                      refine z_iinc (lv' := [(8, .int v_36), (7, .int 1), (0, .ref 57), (1, .int (Int32.ofNat N)), (2, .int a), (3, .int b), (4, .int c), (5, .int d), (6, .int e)]) 8 v_36 dX7_isWord_94 rfl (by rw [e_36]; rfl) (Nat.le_of_ble_eq_true rfl) rfl ?_
                      refine z_goto 18 dX7_isWord_97 (by decide) ?_
                      obtain rfl : v_36 = Int32.ofNat (k + 1) := e_36.trans (nat_succ k)
                      refine z_sub [2,3,4,5,6,7,8,1,0] rfl ?_
                      exact ih18 (k + 1) _ (by omega) (by decide) (fun _ => hsl (by assumption)) (hr.trans (by simp only [risw, rlet, c_25, c_26, c_27, c_28, c_29, c_30, c_34, eq_self, if_true, not_true_eq_false, not_false_eq_true, if_false, reduceIte] <;> simp [c_25, c_26, c_27, c_28, c_29, c_30, c_34]))
                · refine z_iload 4 dX7_isWord_66 rfl ?_
                  refine z_goto 84 dX7_isWord_68 (by decide) ?_
                  refine z_icmp_ne 91 dX7_isWord_84 (by decide) (fun c_37 => ?_) (fun c_37 => ?_)
                  · refine z_iconst 0 dX7_isWord_91 (by decide) ?_
                    refine z_istore (lv' := [(7, .int 0), (0, .ref 57), (1, .int (Int32.ofNat N)), (2, .int a), (3, .int b), (4, .int c), (5, .int d), (6, .int e), (8, .int (Int32.ofNat k))]) dX7_isWord_92 (Nat.le_of_ble_eq_true rfl) rfl ?_
                    obtain ⟨v_38, e_38⟩ : ∃ y : Int32, y = (Int32.ofNat k) + 1 := ⟨_, rfl⟩
                    refine z_iinc (lv' := [(8, .int v_38), (7, .int 0), (0, .ref 57), (1, .int (Int32.ofNat N)), (2, .int a), (3, .int b), (4, .int c), (5, .int d), (6, .int e)]) 8 v_38 dX7_isWord_94 rfl (by rw [e_38]; rfl) (Nat.le_of_ble_eq_true rfl) rfl ?_
                    refine z_goto 18 dX7_isWord_97 (by decide) ?_
                    obtain rfl : v_38 = Int32.ofNat (k + 1) := e_38.trans (nat_succ k)
                    refine z_sub [2,3,4,5,6,7,8,1,0] rfl ?_
                    exact ih18 (k + 1) _ (by omega) (by decide) (fun _ => hsl (by assumption)) (hr.trans (by simp only [risw, rlet, c_25, c_26, c_27, c_28, c_29, c_37, eq_self, if_true, not_true_eq_false, not_false_eq_true, if_false, reduceIte] <;> simp [c_25, c_26, c_27, c_28, c_29, c_37]))
                  · refine z_iconst 1 dX7_isWord_87 (by decide) ?_
                    refine z_goto 92 dX7_isWord_88 (by decide) ?_
                    refine z_istore (lv' := [(7, .int 1), (0, .ref 57), (1, .int (Int32.ofNat N)), (2, .int a), (3, .int b), (4, .int c), (5, .int d), (6, .int e), (8, .int (Int32.ofNat k))]) dX7_isWord_92 (Nat.le_of_ble_eq_true rfl) rfl ?_
                    obtain ⟨v_39, e_39⟩ : ∃ y : Int32, y = (Int32.ofNat k) + 1 := ⟨_, rfl⟩
                    refine z_iinc (lv' := [(8, .int v_39), (7, .int 1), (0, .ref 57), (1, .int (Int32.ofNat N)), (2, .int a), (3, .int b), (4, .int c), (5, .int d), (6, .int e)]) 8 v_39 dX7_isWord_94 rfl (by rw [e_39]; rfl) (Nat.le_of_ble_eq_true rfl) rfl ?_
                    refine z_goto 18 dX7_isWord_97 (by decide) ?_
                    obtain rfl : v_39 = Int32.ofNat (k + 1) := e_39.trans (nat_succ k)
                    refine z_sub [2,3,4,5,6,7,8,1,0] rfl ?_
                    exact ih18 (k + 1) _ (by omega) (by decide) (fun _ => hsl (by assumption)) (hr.trans (by simp only [risw, rlet, c_25, c_26, c_27, c_28, c_29, c_37, eq_self, if_true, not_true_eq_false, not_false_eq_true, if_false, reduceIte] <;> simp [c_25, c_26, c_27, c_28, c_29, c_37]))
              · refine z_iload_n 3 dX7_isWord_56 rfl rfl ?_
                refine z_goto 84 dX7_isWord_57 (by decide) ?_
                refine z_icmp_ne 91 dX7_isWord_84 (by decide) (fun c_40 => ?_) (fun c_40 => ?_)
                · refine z_iconst 0 dX7_isWord_91 (by decide) ?_
                  refine z_istore (lv' := [(7, .int 0), (0, .ref 57), (1, .int (Int32.ofNat N)), (2, .int a), (3, .int b), (4, .int c), (5, .int d), (6, .int e), (8, .int (Int32.ofNat k))]) dX7_isWord_92 (Nat.le_of_ble_eq_true rfl) rfl ?_
                  obtain ⟨v_41, e_41⟩ : ∃ y : Int32, y = (Int32.ofNat k) + 1 := ⟨_, rfl⟩
                  refine z_iinc (lv' := [(8, .int v_41), (7, .int 0), (0, .ref 57), (1, .int (Int32.ofNat N)), (2, .int a), (3, .int b), (4, .int c), (5, .int d), (6, .int e)]) 8 v_41 dX7_isWord_94 rfl (by rw [e_41]; rfl) (Nat.le_of_ble_eq_true rfl) rfl ?_
                  refine z_goto 18 dX7_isWord_97 (by decide) ?_
                  obtain rfl : v_41 = Int32.ofNat (k + 1) := e_41.trans (nat_succ k)
                  refine z_sub [2,3,4,5,6,7,8,1,0] rfl ?_
                  exact ih18 (k + 1) _ (by omega) (by decide) (fun _ => hsl (by assumption)) (hr.trans (by simp only [risw, rlet, c_25, c_26, c_27, c_28, c_40, eq_self, if_true, not_true_eq_false, not_false_eq_true, if_false, reduceIte] <;> simp [c_25, c_26, c_27, c_28, c_40]))
                · refine z_iconst 1 dX7_isWord_87 (by decide) ?_
                  refine z_goto 92 dX7_isWord_88 (by decide) ?_
                  refine z_istore (lv' := [(7, .int 1), (0, .ref 57), (1, .int (Int32.ofNat N)), (2, .int a), (3, .int b), (4, .int c), (5, .int d), (6, .int e), (8, .int (Int32.ofNat k))]) dX7_isWord_92 (Nat.le_of_ble_eq_true rfl) rfl ?_
                  obtain ⟨v_42, e_42⟩ : ∃ y : Int32, y = (Int32.ofNat k) + 1 := ⟨_, rfl⟩
                  refine z_iinc (lv' := [(8, .int v_42), (7, .int 1), (0, .ref 57), (1, .int (Int32.ofNat N)), (2, .int a), (3, .int b), (4, .int c), (5, .int d), (6, .int e)]) 8 v_42 dX7_isWord_94 rfl (by rw [e_42]; rfl) (Nat.le_of_ble_eq_true rfl) rfl ?_
                  refine z_goto 18 dX7_isWord_97 (by decide) ?_
                  obtain rfl : v_42 = Int32.ofNat (k + 1) := e_42.trans (nat_succ k)
                  refine z_sub [2,3,4,5,6,7,8,1,0] rfl ?_
                  exact ih18 (k + 1) _ (by omega) (by decide) (fun _ => hsl (by assumption)) (hr.trans (by simp only [risw, rlet, c_25, c_26, c_27, c_28, c_40, eq_self, if_true, not_true_eq_false, not_false_eq_true, if_false, reduceIte] <;> simp [c_25, c_26, c_27, c_28, c_40]))
            · refine z_iload_n 2 dX7_isWord_46 rfl rfl ?_
              refine z_goto 84 dX7_isWord_47 (by decide) ?_
              refine z_icmp_ne 91 dX7_isWord_84 (by decide) (fun c_43 => ?_) (fun c_43 => ?_)
              · refine z_iconst 0 dX7_isWord_91 (by decide) ?_
                refine z_istore (lv' := [(7, .int 0), (0, .ref 57), (1, .int (Int32.ofNat N)), (2, .int a), (3, .int b), (4, .int c), (5, .int d), (6, .int e), (8, .int (Int32.ofNat k))]) dX7_isWord_92 (Nat.le_of_ble_eq_true rfl) rfl ?_
                obtain ⟨v_44, e_44⟩ : ∃ y : Int32, y = (Int32.ofNat k) + 1 := ⟨_, rfl⟩
                refine z_iinc (lv' := [(8, .int v_44), (7, .int 0), (0, .ref 57), (1, .int (Int32.ofNat N)), (2, .int a), (3, .int b), (4, .int c), (5, .int d), (6, .int e)]) 8 v_44 dX7_isWord_94 rfl (by rw [e_44]; rfl) (Nat.le_of_ble_eq_true rfl) rfl ?_
                refine z_goto 18 dX7_isWord_97 (by decide) ?_
                obtain rfl : v_44 = Int32.ofNat (k + 1) := e_44.trans (nat_succ k)
                refine z_sub [2,3,4,5,6,7,8,1,0] rfl ?_
                exact ih18 (k + 1) _ (by omega) (by decide) (fun _ => hsl (by assumption)) (hr.trans (by simp only [risw, rlet, c_25, c_26, c_27, c_43, eq_self, if_true, not_true_eq_false, not_false_eq_true, if_false, reduceIte] <;> simp [c_25, c_26, c_27, c_43]))
              · refine z_iconst 1 dX7_isWord_87 (by decide) ?_
                refine z_goto 92 dX7_isWord_88 (by decide) ?_
                refine z_istore (lv' := [(7, .int 1), (0, .ref 57), (1, .int (Int32.ofNat N)), (2, .int a), (3, .int b), (4, .int c), (5, .int d), (6, .int e), (8, .int (Int32.ofNat k))]) dX7_isWord_92 (Nat.le_of_ble_eq_true rfl) rfl ?_
                obtain ⟨v_45, e_45⟩ : ∃ y : Int32, y = (Int32.ofNat k) + 1 := ⟨_, rfl⟩
                refine z_iinc (lv' := [(8, .int v_45), (7, .int 1), (0, .ref 57), (1, .int (Int32.ofNat N)), (2, .int a), (3, .int b), (4, .int c), (5, .int d), (6, .int e)]) 8 v_45 dX7_isWord_94 rfl (by rw [e_45]; rfl) (Nat.le_of_ble_eq_true rfl) rfl ?_
                refine z_goto 18 dX7_isWord_97 (by decide) ?_
                obtain rfl : v_45 = Int32.ofNat (k + 1) := e_45.trans (nat_succ k)
                refine z_sub [2,3,4,5,6,7,8,1,0] rfl ?_
                exact ih18 (k + 1) _ (by omega) (by decide) (fun _ => hsl (by assumption)) (hr.trans (by simp only [risw, rlet, c_25, c_26, c_27, c_43, eq_self, if_true, not_true_eq_false, not_false_eq_true, if_false, reduceIte] <;> simp [c_25, c_26, c_27, c_43]))
    refine z_sub [2,3,4,5,6,7,8,1,0] rfl ?_
    exact loop18 (N) 0 _ (by omega) (by decide) (fun q => by first | exact absurd rfl q | exact ofNat_inj (hLn.symm.trans (by assumption)) (by omega) (by omega)) (by simp only [c_1, if_true, if_false])
set_option maxRecDepth 100000 in
set_option maxHeartbeats 4000000 in
theorem c7_num {m : zmem} {lo hi : Int32} (hT : RT m) : Ei MX7_takeNumber 1 [.ref 57, .int lo, .int hi] m ((rnum m lo hi).1) ((rnum m lo hi).2) := by
  obtain ⟨hL, hL4, hP, hPL⟩ := id hT
  have hB := rblk_le m hT
  refine Ei.of (by decide) (Nat.le_of_ble_eq_true rfl) ?_
  show Z _ 0 [(0, .ref 57), (1, .int lo), (2, .int hi)] _ _ _ _
  refine z_aload_n 0 dX7_takeNumber_0 rfl rfl ?_
  refine y_getI fX7_91 dX7_takeNumber_1 rfl rfl ?_
  refine z_if_le 9 dX7_takeNumber_4 (by decide) (fun c_1 => ?_) (fun c_1 => ?_)
  · refine z_aload_n 0 dX7_takeNumber_9 rfl rfl ?_
    refine y_Vi [] _ kX7_94 (c7_here hT) rfl rfl dX7_takeNumber_10 rfl rfl (Nat.le_of_ble_eq_true rfl) (Nat.le_of_ble_eq_true rfl) ⟨Nat.zero_le _, Nat.zero_le _⟩ ?_
    refine z_itop (y := (rhr m)) rfl ?_
    refine z_istore_n (lv' := [(3, .int (rhr m)), (0, .ref 57), (1, .int lo), (2, .int hi)]) dX7_takeNumber_13 rfl (Nat.le_of_ble_eq_true rfl) rfl ?_
    refine z_aload_n 1 dX7_takeNumber_14 rfl rfl ?_
    refine z_aload_n 1 dX7_takeNumber_15 rfl rfl ?_
    refine y_getI fX7_88 dX7_takeNumber_16 rfl rfl ?_
    refine z_itop (y := (Int32.ofNat (rblk m))) (mset_eq _ _ _ _) ?_
    refine y_putI fX7_98 dX7_takeNumber_19 rfl rfl ?_
    refine y_mem (m1 := rtw0 m) rfl ?_
    refine z_aload_n 1 dX7_takeNumber_22 rfl rfl ?_
    refine z_iload_n 0 dX7_takeNumber_23 rfl rfl ?_
    refine z_i2l dX7_takeNumber_24 ?_
    refine z_ldc2 48 dX7_takeNumber_25 nX7_108 ?_
    refine z_ldc2 57 dX7_takeNumber_28 nX7_110 ?_
    refine y_Si [_, _, _] _ kX7_77 (c7_ini (lo := 48) (hi := 57)) dX7_takeNumber_31 rfl rfl (Nat.le_of_ble_eq_true rfl) (Nat.le_of_ble_eq_true rfl) ⟨Nat.zero_le _, Nat.zero_le _⟩ ?_
    refine z_iconst 1 dX7_takeNumber_34 (by decide) ?_
    refine z_aload_n 1 dX7_takeNumber_35 rfl rfl ?_
    refine y_getI fX7_88 dX7_takeNumber_36 rfl rfl ?_
    refine z_itop (y := (Int32.ofNat (rblk m))) (rtw0_at m) ?_
    refine y_Vi [_, _, _] _ kX7_112 c7_want rfl rfl dX7_takeNumber_39 rfl rfl (Nat.le_of_ble_eq_true rfl) (Nat.le_of_ble_eq_true rfl) ⟨Nat.zero_le _, Nat.zero_le _⟩ ?_
    refine z_if_ne 47 dX7_takeNumber_42 (by decide) (fun c_2 => ?_) (fun c_2 => ?_)
    · refine y_mem (m1 := rnm0 m) rfl ?_
      refine z_iconst 0 dX7_takeNumber_47 (by decide) ?_
      refine z_istore (lv' := [(4, .int 0), (3, .int (rhr m)), (0, .ref 57), (1, .int lo), (2, .int hi)]) dX7_takeNumber_48 (Nat.le_of_ble_eq_true rfl) rfl ?_
      refine y_mem (m1 := rat (rnm0 m) (rblk m)) (mset_id ((rnm0_ne m (by decide) (by decide)).trans (rtw0_at m))).symm ?_
      have loop50 : ∀ (n : Nat) (k : Nat) (v : Int32), k + n = rL m → rblk m ≤ k → rat (rnm0 m) k 57 12 = Int32.ofNat (rL m) → rat (rnm0 m) k 66 k = m 66 k → rnmd m = rdig (m 66) n k v → Z (zMB (Qi ((rnum m lo hi).1) ((rnum m lo hi).2)) 1 MX7_takeNumber) 50 [(0, .ref 57), (1, .int lo), (2, .int hi), (3, .int (rhr m)), (4, .int v)] [] (hp (rat (rnm0 m) k)) 0 0 := by
        intro n
        induction n with
        | zero =>
          intro k v hk hbk hLL hu hr
          refine z_aload_n 0 dX7_takeNumber_50 rfl rfl ?_
          refine y_getI fX7_88 dX7_takeNumber_51 rfl rfl ?_
          refine z_itop (y := (Int32.ofNat k)) (mset_eq _ _ _ _) ?_
          refine z_aload_n 0 dX7_takeNumber_54 rfl rfl ?_
          refine y_getI fX7_82 dX7_takeNumber_55 rfl rfl ?_
          refine z_itop (y := (Int32.ofNat (rL m))) hLL ?_
          refine z_icmp_ge 128 dX7_takeNumber_58 (by decide) (fun c_3 => ?_) (fun c_3 => ?_)
          · have hfound : rnmd m = (k, v) := by rw [hr]; simp [rdig, c_1, c_2, c_3]
            refine z_aload_n 0 dX7_takeNumber_128 rfl rfl ?_
            refine z_aload_n 0 dX7_takeNumber_129 rfl rfl ?_
            refine y_getI fX7_88 dX7_takeNumber_130 rfl rfl ?_
            refine z_itop (y := (Int32.ofNat k)) (mset_eq _ _ _ _) ?_
            refine z_aload_n 0 dX7_takeNumber_133 rfl rfl ?_
            refine y_getI fX7_98 dX7_takeNumber_134 rfl rfl ?_
            refine z_itop (y := (Int32.ofNat (rblk m))) ((rat_ne (by decide)).trans ((rnm0_ne m (by decide) (by decide)).trans (rtw0_first m))) ?_
            refine z_isub dX7_takeNumber_137 ?_
            refine z_iconst 4 dX7_takeNumber_138 (by decide) ?_
            refine z_icmp_ge 159 dX7_takeNumber_139 (by decide) (fun c_4 => ?_) (fun c_4 => ?_)
            · refine z_iconst 0 dX7_takeNumber_159 (by decide) ?_
              refine z_iconst 2 dX7_takeNumber_160 (by decide) ?_
              refine z_aload_n 0 dX7_takeNumber_161 rfl rfl ?_
              refine y_getI fX7_98 dX7_takeNumber_162 rfl rfl ?_
              refine z_itop (y := (Int32.ofNat (rblk m))) ((rat_ne (by decide)).trans ((rnm0_ne m (by decide) (by decide)).trans (rtw0_first m))) ?_
              refine y_Vi [_, _, _] _ kX7_112 c7_want rfl rfl dX7_takeNumber_165 rfl rfl (Nat.le_of_ble_eq_true rfl) (Nat.le_of_ble_eq_true rfl) ⟨Nat.zero_le _, Nat.zero_le _⟩ ?_
              refine z_topi (fun v_5 e_5 => ?_)
              refine z_istore (lv' := [(5, .int v_5), (0, .ref 57), (1, .int lo), (2, .int hi), (3, .int (rhr m)), (4, .int v)]) dX7_takeNumber_168 (Nat.le_of_ble_eq_true rfl) rfl ?_
              refine z_iload 5 dX7_takeNumber_170 rfl ?_
              exact y_iret dX7_takeNumber_172 rfl (by first | (rw [rnum, if_pos c_1, if_neg c_2, hfound]; done) | (simp only [rnum, c_1, c_2, c_3, c_4, eq_self, if_true, not_true_eq_false, not_false_eq_true, if_false, reduceIte]; done)) (by first | (rw [rnum, if_pos c_1, if_neg c_2, rnm1, rgd, hfound]; simp only [c_1, c_2, c_3, c_4, eq_self, if_true, not_true_eq_false, not_false_eq_true, if_false, reduceIte]; done) | (simp only [rnum, c_1, c_2, c_3, c_4, eq_self, if_true, not_true_eq_false, not_false_eq_true, if_false, reduceIte]; done) | (simp only [rnum, rnm0, c_1, c_2, c_3, c_4, eq_self, if_true, not_true_eq_false, not_false_eq_true, if_false, reduceIte]; done))
            · refine z_iload 4 dX7_takeNumber_142 rfl ?_
              refine z_i2l dX7_takeNumber_144 ?_
              refine z_iload_n 1 dX7_takeNumber_145 rfl rfl ?_
              refine z_i2l dX7_takeNumber_146 ?_
              refine z_iload_n 2 dX7_takeNumber_147 rfl rfl ?_
              refine z_i2l dX7_takeNumber_148 ?_
              refine y_Si [_, _, _] _ kX7_77 (c7_ini (lo := lo) (hi := hi) (hl := rfl) (hh := rfl)) dX7_takeNumber_149 rfl rfl (Nat.le_of_ble_eq_true rfl) (Nat.le_of_ble_eq_true rfl) ⟨Nat.zero_le _, Nat.zero_le _⟩ ?_
              refine z_if_eq 159 dX7_takeNumber_152 (by decide) (fun c_6 => ?_) (fun c_6 => ?_)
              · refine z_iconst 0 dX7_takeNumber_159 (by decide) ?_
                refine z_iconst 2 dX7_takeNumber_160 (by decide) ?_
                refine z_aload_n 0 dX7_takeNumber_161 rfl rfl ?_
                refine y_getI fX7_98 dX7_takeNumber_162 rfl rfl ?_
                refine z_itop (y := (Int32.ofNat (rblk m))) ((rat_ne (by decide)).trans ((rnm0_ne m (by decide) (by decide)).trans (rtw0_first m))) ?_
                refine y_Vi [_, _, _] _ kX7_112 c7_want rfl rfl dX7_takeNumber_165 rfl rfl (Nat.le_of_ble_eq_true rfl) (Nat.le_of_ble_eq_true rfl) ⟨Nat.zero_le _, Nat.zero_le _⟩ ?_
                refine z_topi (fun v_7 e_7 => ?_)
                refine z_istore (lv' := [(5, .int v_7), (0, .ref 57), (1, .int lo), (2, .int hi), (3, .int (rhr m)), (4, .int v)]) dX7_takeNumber_168 (Nat.le_of_ble_eq_true rfl) rfl ?_
                refine z_iload 5 dX7_takeNumber_170 rfl ?_
                exact y_iret dX7_takeNumber_172 rfl (by first | (rw [rnum, if_pos c_1, if_neg c_2, hfound]; done) | (simp only [rnum, c_1, c_2, c_3, c_4, c_6, eq_self, if_true, not_true_eq_false, not_false_eq_true, if_false, reduceIte]; done)) (by first | (rw [rnum, if_pos c_1, if_neg c_2, rnm1, rgd, hfound]; simp only [c_1, c_2, c_3, c_4, c_6, eq_self, if_true, not_true_eq_false, not_false_eq_true, if_false, reduceIte]; done) | (simp only [rnum, c_1, c_2, c_3, c_4, c_6, eq_self, if_true, not_true_eq_false, not_false_eq_true, if_false, reduceIte]; done) | (simp only [rnum, rnm0, c_1, c_2, c_3, c_4, c_6, eq_self, if_true, not_true_eq_false, not_false_eq_true, if_false, reduceIte]; done))
              · refine z_iconst 1 dX7_takeNumber_155 (by decide) ?_
                refine z_goto 160 dX7_takeNumber_156 (by decide) ?_
                refine z_iconst 2 dX7_takeNumber_160 (by decide) ?_
                refine z_aload_n 0 dX7_takeNumber_161 rfl rfl ?_
                refine y_getI fX7_98 dX7_takeNumber_162 rfl rfl ?_
                refine z_itop (y := (Int32.ofNat (rblk m))) ((rat_ne (by decide)).trans ((rnm0_ne m (by decide) (by decide)).trans (rtw0_first m))) ?_
                refine y_Vi [_, _, _] _ kX7_112 c7_want rfl rfl dX7_takeNumber_165 rfl rfl (Nat.le_of_ble_eq_true rfl) (Nat.le_of_ble_eq_true rfl) ⟨Nat.zero_le _, Nat.zero_le _⟩ ?_
                refine z_topi (fun v_8 e_8 => ?_)
                refine z_istore (lv' := [(5, .int v_8), (0, .ref 57), (1, .int lo), (2, .int hi), (3, .int (rhr m)), (4, .int v)]) dX7_takeNumber_168 (Nat.le_of_ble_eq_true rfl) rfl ?_
                refine z_iload 5 dX7_takeNumber_170 rfl ?_
                exact y_iret dX7_takeNumber_172 rfl (by first | (rw [rnum, if_pos c_1, if_neg c_2, hfound]; done) | (simp only [rnum, c_1, c_2, c_3, c_4, c_6, eq_self, if_true, not_true_eq_false, not_false_eq_true, if_false, reduceIte]; done)) (by first | (rw [rnum, if_pos c_1, if_neg c_2, rnm1, rgd, hfound]; simp only [c_1, c_2, c_3, c_4, c_6, eq_self, if_true, not_true_eq_false, not_false_eq_true, if_false, reduceIte]; done) | (simp only [rnum, c_1, c_2, c_3, c_4, c_6, eq_self, if_true, not_true_eq_false, not_false_eq_true, if_false, reduceIte]; done) | (simp only [rnum, rnm0, c_1, c_2, c_3, c_4, c_6, eq_self, if_true, not_true_eq_false, not_false_eq_true, if_false, reduceIte]; done))
          · exact (dz rfl rfl (by omega) (by omega) c_3).elim
        | succ n ih50 =>
          intro k v hk hbk hLL hu hr
          refine z_aload_n 0 dX7_takeNumber_50 rfl rfl ?_
          refine y_getI fX7_88 dX7_takeNumber_51 rfl rfl ?_
          refine z_itop (y := (Int32.ofNat k)) (mset_eq _ _ _ _) ?_
          refine z_aload_n 0 dX7_takeNumber_54 rfl rfl ?_
          refine y_getI fX7_82 dX7_takeNumber_55 rfl rfl ?_
          refine z_itop (y := (Int32.ofNat (rL m))) hLL ?_
          refine z_icmp_ge 128 dX7_takeNumber_58 (by decide) (fun c_9 => ?_) (fun c_9 => ?_)
          · exact (ds rfl rfl (by omega) (by omega) c_9).elim
          · refine z_aload_n 0 dX7_takeNumber_61 rfl rfl ?_
            refine y_getR fX7_42 dX7_takeNumber_62 rfl rfl ?_
            refine z_aload_n 0 dX7_takeNumber_65 rfl rfl ?_
            refine y_getI fX7_88 dX7_takeNumber_66 rfl rfl ?_
            refine z_itop (y := (Int32.ofNat k)) (mset_eq _ _ _ _) ?_
            refine y_ald (N := k) dX7_takeNumber_69 rfl rfl (by omega) ?_
            refine z_itop (y := (m 66 k)) hu ?_
            refine z_i2l dX7_takeNumber_70 ?_
            refine z_ldc2 48 dX7_takeNumber_71 nX7_108 ?_
            refine z_ldc2 57 dX7_takeNumber_74 nX7_110 ?_
            refine y_Si [_, _, _] _ kX7_77 (c7_ini (lo := 48) (hi := 57)) dX7_takeNumber_77 rfl rfl (Nat.le_of_ble_eq_true rfl) (Nat.le_of_ble_eq_true rfl) ⟨Nat.zero_le _, Nat.zero_le _⟩ ?_
            refine z_if_eq 128 dX7_takeNumber_80 (by decide) (fun c_10 => ?_) (fun c_10 => ?_)
            · have hfound : rnmd m = (k, v) := by rw [hr]; simp [rdig, c_1, c_2, c_9, c_10]
              refine z_aload_n 0 dX7_takeNumber_128 rfl rfl ?_
              refine z_aload_n 0 dX7_takeNumber_129 rfl rfl ?_
              refine y_getI fX7_88 dX7_takeNumber_130 rfl rfl ?_
              refine z_itop (y := (Int32.ofNat k)) (mset_eq _ _ _ _) ?_
              refine z_aload_n 0 dX7_takeNumber_133 rfl rfl ?_
              refine y_getI fX7_98 dX7_takeNumber_134 rfl rfl ?_
              refine z_itop (y := (Int32.ofNat (rblk m))) ((rat_ne (by decide)).trans ((rnm0_ne m (by decide) (by decide)).trans (rtw0_first m))) ?_
              refine z_isub dX7_takeNumber_137 ?_
              refine z_iconst 4 dX7_takeNumber_138 (by decide) ?_
              refine z_icmp_ge 159 dX7_takeNumber_139 (by decide) (fun c_11 => ?_) (fun c_11 => ?_)
              · refine z_iconst 0 dX7_takeNumber_159 (by decide) ?_
                refine z_iconst 2 dX7_takeNumber_160 (by decide) ?_
                refine z_aload_n 0 dX7_takeNumber_161 rfl rfl ?_
                refine y_getI fX7_98 dX7_takeNumber_162 rfl rfl ?_
                refine z_itop (y := (Int32.ofNat (rblk m))) ((rat_ne (by decide)).trans ((rnm0_ne m (by decide) (by decide)).trans (rtw0_first m))) ?_
                refine y_Vi [_, _, _] _ kX7_112 c7_want rfl rfl dX7_takeNumber_165 rfl rfl (Nat.le_of_ble_eq_true rfl) (Nat.le_of_ble_eq_true rfl) ⟨Nat.zero_le _, Nat.zero_le _⟩ ?_
                refine z_topi (fun v_12 e_12 => ?_)
                refine z_istore (lv' := [(5, .int v_12), (0, .ref 57), (1, .int lo), (2, .int hi), (3, .int (rhr m)), (4, .int v)]) dX7_takeNumber_168 (Nat.le_of_ble_eq_true rfl) rfl ?_
                refine z_iload 5 dX7_takeNumber_170 rfl ?_
                exact y_iret dX7_takeNumber_172 rfl (by first | (rw [rnum, if_pos c_1, if_neg c_2, hfound]; done) | (simp only [rnum, c_1, c_2, c_9, c_10, c_11, eq_self, if_true, not_true_eq_false, not_false_eq_true, if_false, reduceIte]; done)) (by first | (rw [rnum, if_pos c_1, if_neg c_2, rnm1, rgd, hfound]; simp only [c_1, c_2, c_9, c_10, c_11, eq_self, if_true, not_true_eq_false, not_false_eq_true, if_false, reduceIte]; done) | (simp only [rnum, c_1, c_2, c_9, c_10, c_11, eq_self, if_true, not_true_eq_false, not_false_eq_true, if_false, reduceIte]; done) | (simp only [rnum, rnm0, c_1, c_2, c_9, c_10, c_11, eq_self, if_true, not_true_eq_false, not_false_eq_true, if_false, reduceIte]; done))
              · refine z_iload 4 dX7_takeNumber_142 rfl ?_
                refine z_i2l dX7_takeNumber_144 ?_
                refine z_iload_n 1 dX7_takeNumber_145 rfl rfl ?_
                refine z_i2l dX7_takeNumber_146 ?_
                refine z_iload_n 2 dX7_takeNumber_147 rfl rfl ?_
                refine z_i2l dX7_takeNumber_148 ?_
                refine y_Si [_, _, _] _ kX7_77 (c7_ini (lo := lo) (hi := hi) (hl := rfl) (hh := rfl)) dX7_takeNumber_149 rfl rfl (Nat.le_of_ble_eq_true rfl) (Nat.le_of_ble_eq_true rfl) ⟨Nat.zero_le _, Nat.zero_le _⟩ ?_
                refine z_if_eq 159 dX7_takeNumber_152 (by decide) (fun c_13 => ?_) (fun c_13 => ?_)
                · refine z_iconst 0 dX7_takeNumber_159 (by decide) ?_
                  refine z_iconst 2 dX7_takeNumber_160 (by decide) ?_
                  refine z_aload_n 0 dX7_takeNumber_161 rfl rfl ?_
                  refine y_getI fX7_98 dX7_takeNumber_162 rfl rfl ?_
                  refine z_itop (y := (Int32.ofNat (rblk m))) ((rat_ne (by decide)).trans ((rnm0_ne m (by decide) (by decide)).trans (rtw0_first m))) ?_
                  refine y_Vi [_, _, _] _ kX7_112 c7_want rfl rfl dX7_takeNumber_165 rfl rfl (Nat.le_of_ble_eq_true rfl) (Nat.le_of_ble_eq_true rfl) ⟨Nat.zero_le _, Nat.zero_le _⟩ ?_
                  refine z_topi (fun v_14 e_14 => ?_)
                  refine z_istore (lv' := [(5, .int v_14), (0, .ref 57), (1, .int lo), (2, .int hi), (3, .int (rhr m)), (4, .int v)]) dX7_takeNumber_168 (Nat.le_of_ble_eq_true rfl) rfl ?_
                  refine z_iload 5 dX7_takeNumber_170 rfl ?_
                  exact y_iret dX7_takeNumber_172 rfl (by first | (rw [rnum, if_pos c_1, if_neg c_2, hfound]; done) | (simp only [rnum, c_1, c_2, c_9, c_10, c_11, c_13, eq_self, if_true, not_true_eq_false, not_false_eq_true, if_false, reduceIte]; done)) (by first | (rw [rnum, if_pos c_1, if_neg c_2, rnm1, rgd, hfound]; simp only [c_1, c_2, c_9, c_10, c_11, c_13, eq_self, if_true, not_true_eq_false, not_false_eq_true, if_false, reduceIte]; done) | (simp only [rnum, c_1, c_2, c_9, c_10, c_11, c_13, eq_self, if_true, not_true_eq_false, not_false_eq_true, if_false, reduceIte]; done) | (simp only [rnum, rnm0, c_1, c_2, c_9, c_10, c_11, c_13, eq_self, if_true, not_true_eq_false, not_false_eq_true, if_false, reduceIte]; done))
                · refine z_iconst 1 dX7_takeNumber_155 (by decide) ?_
                  refine z_goto 160 dX7_takeNumber_156 (by decide) ?_
                  refine z_iconst 2 dX7_takeNumber_160 (by decide) ?_
                  refine z_aload_n 0 dX7_takeNumber_161 rfl rfl ?_
                  refine y_getI fX7_98 dX7_takeNumber_162 rfl rfl ?_
                  refine z_itop (y := (Int32.ofNat (rblk m))) ((rat_ne (by decide)).trans ((rnm0_ne m (by decide) (by decide)).trans (rtw0_first m))) ?_
                  refine y_Vi [_, _, _] _ kX7_112 c7_want rfl rfl dX7_takeNumber_165 rfl rfl (Nat.le_of_ble_eq_true rfl) (Nat.le_of_ble_eq_true rfl) ⟨Nat.zero_le _, Nat.zero_le _⟩ ?_
                  refine z_topi (fun v_15 e_15 => ?_)
                  refine z_istore (lv' := [(5, .int v_15), (0, .ref 57), (1, .int lo), (2, .int hi), (3, .int (rhr m)), (4, .int v)]) dX7_takeNumber_168 (Nat.le_of_ble_eq_true rfl) rfl ?_
                  refine z_iload 5 dX7_takeNumber_170 rfl ?_
                  exact y_iret dX7_takeNumber_172 rfl (by first | (rw [rnum, if_pos c_1, if_neg c_2, hfound]; done) | (simp only [rnum, c_1, c_2, c_9, c_10, c_11, c_13, eq_self, if_true, not_true_eq_false, not_false_eq_true, if_false, reduceIte]; done)) (by first | (rw [rnum, if_pos c_1, if_neg c_2, rnm1, rgd, hfound]; simp only [c_1, c_2, c_9, c_10, c_11, c_13, eq_self, if_true, not_true_eq_false, not_false_eq_true, if_false, reduceIte]; done) | (simp only [rnum, c_1, c_2, c_9, c_10, c_11, c_13, eq_self, if_true, not_true_eq_false, not_false_eq_true, if_false, reduceIte]; done) | (simp only [rnum, rnm0, c_1, c_2, c_9, c_10, c_11, c_13, eq_self, if_true, not_true_eq_false, not_false_eq_true, if_false, reduceIte]; done))
            · refine z_iload 4 dX7_takeNumber_83 rfl ?_
              refine z_ldc 99999 dX7_takeNumber_85 nX7_116 ?_
              refine z_icmp_le 95 dX7_takeNumber_87 (by decide) (fun c_16 => ?_) (fun c_16 => ?_)
              · refine z_bipush 10 dX7_takeNumber_95 (by decide) ?_
                refine z_iload 4 dX7_takeNumber_97 rfl ?_
                refine z_imul dX7_takeNumber_99 ?_
                refine z_aload_n 0 dX7_takeNumber_100 rfl rfl ?_
                refine y_getR fX7_42 dX7_takeNumber_101 rfl rfl ?_
                refine z_aload_n 0 dX7_takeNumber_104 rfl rfl ?_
                refine y_getI fX7_88 dX7_takeNumber_105 rfl rfl ?_
                refine z_itop (y := (Int32.ofNat k)) (mset_eq _ _ _ _) ?_
                refine y_ald (N := k) dX7_takeNumber_108 rfl rfl (by omega) ?_
                refine z_itop (y := (m 66 k)) hu ?_
                refine z_iadd dX7_takeNumber_109 ?_
                refine z_bipush 48 dX7_takeNumber_110 (by decide) ?_
                refine z_isub dX7_takeNumber_112 ?_
                refine z_topi (fun v_17 e_17 => ?_)
                refine z_istore (lv' := [(4, .int v_17), (0, .ref 57), (1, .int lo), (2, .int hi), (3, .int (rhr m))]) dX7_takeNumber_113 (Nat.le_of_ble_eq_true rfl) rfl ?_
                refine z_aload_n 1 dX7_takeNumber_115 rfl rfl ?_
                refine z_dup dX7_takeNumber_116 rfl ?_
                refine y_getI fX7_88 dX7_takeNumber_117 rfl rfl ?_
                refine z_iconst 1 dX7_takeNumber_120 (by decide) ?_
                refine z_iadd dX7_takeNumber_121 ?_
                refine y_putI fX7_88 dX7_takeNumber_122 rfl rfl ?_
                refine z_goto 50 dX7_takeNumber_125 (by decide) ?_
                refine y_mem (m1 := rat (rnm0 m) (k + 1)) (by simp only [rat, mset_eq, mset_mset, nat_succ]) ?_
                refine z_sub [1,2,3,4,0] rfl ?_
                exact ih50 (k + 1) _ (by omega) (by omega) ((rat_ne (by decide)).trans ((rat_ne (by decide)).symm.trans hLL)) (by rw [rat_cell (by decide), rnm0_cell m (by decide)]) (hr.trans (by simp only [rdig, c_9, c_10, c_16, eq_self, if_true, not_true_eq_false, not_false_eq_true, if_false, reduceIte, e_17]))
              · refine z_iload 4 dX7_takeNumber_90 rfl ?_
                refine z_goto 113 dX7_takeNumber_92 (by decide) ?_
                refine z_istore (lv' := [(4, .int v), (0, .ref 57), (1, .int lo), (2, .int hi), (3, .int (rhr m))]) dX7_takeNumber_113 (Nat.le_of_ble_eq_true rfl) rfl ?_
                refine z_aload_n 1 dX7_takeNumber_115 rfl rfl ?_
                refine z_dup dX7_takeNumber_116 rfl ?_
                refine y_getI fX7_88 dX7_takeNumber_117 rfl rfl ?_
                refine z_iconst 1 dX7_takeNumber_120 (by decide) ?_
                refine z_iadd dX7_takeNumber_121 ?_
                refine y_putI fX7_88 dX7_takeNumber_122 rfl rfl ?_
                refine z_goto 50 dX7_takeNumber_125 (by decide) ?_
                refine y_mem (m1 := rat (rnm0 m) (k + 1)) (by simp only [rat, mset_eq, mset_mset, nat_succ]) ?_
                refine z_sub [1,2,3,4,0] rfl ?_
                exact ih50 (k + 1) _ (by omega) (by omega) ((rat_ne (by decide)).trans ((rat_ne (by decide)).symm.trans hLL)) (by rw [rat_cell (by decide), rnm0_cell m (by decide)]) (hr.trans (by simp only [rdig, c_9, c_10, c_16, eq_self, if_true, not_true_eq_false, not_false_eq_true, if_false, reduceIte, ]))
      refine z_sub [2,3,4,1,0] rfl ?_
      exact loop50 (rL m - rblk m) (rblk m) _ (by omega) (Nat.le_refl _) ((rat_ne (by decide)).trans ((rnm0_ne m (by decide) (by decide)).trans ((rtw0_ne m (by decide) (by decide)).trans hL))) (by rw [rat_cell (by decide), rnm0_cell m (by decide)]) rfl
    · refine z_iconst 0 dX7_takeNumber_45 (by decide) ?_
      exact y_iret dX7_takeNumber_46 rfl (by first | (rw [rnum, if_pos c_1, if_neg c_2, hfound]; done) | (simp only [rnum, c_1, c_2, eq_self, if_true, not_true_eq_false, not_false_eq_true, if_false, reduceIte]; done)) (by first | (rw [rnum, if_pos c_1, if_neg c_2, rnm1, rgd, hfound]; simp only [c_1, c_2, eq_self, if_true, not_true_eq_false, not_false_eq_true, if_false, reduceIte]; done) | (simp only [rnum, c_1, c_2, eq_self, if_true, not_true_eq_false, not_false_eq_true, if_false, reduceIte]; done) | (simp only [rnum, rnm0, c_1, c_2, eq_self, if_true, not_true_eq_false, not_false_eq_true, if_false, reduceIte]; done))
  · refine z_iconst 0 dX7_takeNumber_7 (by decide) ?_
    exact y_iret dX7_takeNumber_8 rfl (by first | (rw [rnum, if_pos c_1, if_neg c_2, hfound]; done) | (simp only [rnum, c_1, eq_self, if_true, not_true_eq_false, not_false_eq_true, if_false, reduceIte]; done)) (by first | (rw [rnum, if_pos c_1, if_neg c_2, rnm1, rgd, hfound]; simp only [c_1, eq_self, if_true, not_true_eq_false, not_false_eq_true, if_false, reduceIte]; done) | (simp only [rnum, c_1, eq_self, if_true, not_true_eq_false, not_false_eq_true, if_false, reduceIte]; done) | (simp only [rnum, rnm0, c_1, eq_self, if_true, not_true_eq_false, not_false_eq_true, if_false, reduceIte]; done))
set_option maxRecDepth 100000 in
set_option maxHeartbeats 4000000 in
theorem c7_end {m : zmem} (hT : RT m) : E0 MX7_takeEnd 1 [.ref 57] m (rend m) := by
  refine E0.of (by decide) (Nat.le_of_ble_eq_true rfl) ?_
  show Z _ 0 [(0, .ref 57)] _ _ _ _
  refine z_aload_n 0 dX7_takeEnd_0 rfl rfl ?_
  refine y_getI fX7_91 dX7_takeEnd_1 rfl rfl ?_
  refine z_if_ne 43 dX7_takeEnd_4 (by decide) (fun c_1 => ?_) (fun c_1 => ?_)
  · exact y_vret dX7_takeEnd_43 rfl (by simp only [rend, rend0, c_1, eq_self, if_true, not_true_eq_false, not_false_eq_true, if_false, reduceIte])
  · refine z_aload_n 0 dX7_takeEnd_7 rfl rfl ?_
    refine z_aload_n 0 dX7_takeEnd_8 rfl rfl ?_
    refine y_Vi [] _ kX7_94 (c7_here hT) rfl rfl dX7_takeEnd_9 rfl rfl (Nat.le_of_ble_eq_true rfl) (Nat.le_of_ble_eq_true rfl) ⟨Nat.zero_le _, Nat.zero_le _⟩ ?_
    refine z_bipush 59 dX7_takeEnd_12 (by decide) ?_
    refine z_icmp_ne 21 dX7_takeEnd_14 (by decide) (fun c_2 => ?_) (fun c_2 => ?_)
    · refine z_iconst 0 dX7_takeEnd_21 (by decide) ?_
      refine z_iconst 1 dX7_takeEnd_22 (by decide) ?_
      refine z_aload_n 0 dX7_takeEnd_23 rfl rfl ?_
      refine y_getI fX7_88 dX7_takeEnd_24 rfl rfl ?_
      refine z_itop (y := (Int32.ofNat (rblk m))) (mset_eq _ _ _ _) ?_
      refine y_Vi [_, _, _] _ kX7_112 c7_want rfl rfl dX7_takeEnd_27 rfl rfl (Nat.le_of_ble_eq_true rfl) (Nat.le_of_ble_eq_true rfl) ⟨Nat.zero_le _, Nat.zero_le _⟩ ?_
      refine z_if_eq 43 dX7_takeEnd_30 (by decide) (fun c_3 => ?_) (fun c_3 => ?_)
      · exact y_vret dX7_takeEnd_43 rfl (by simp only [rend, rend0, c_1, c_2, c_3, eq_self, if_true, not_true_eq_false, not_false_eq_true, if_false, reduceIte])
      · refine z_aload_n 0 dX7_takeEnd_33 rfl rfl ?_
        refine z_dup dX7_takeEnd_34 rfl ?_
        refine y_getI fX7_88 dX7_takeEnd_35 rfl rfl ?_
        refine z_iconst 1 dX7_takeEnd_38 (by decide) ?_
        refine z_iadd dX7_takeEnd_39 ?_
        refine y_putI fX7_88 dX7_takeEnd_40 rfl rfl ?_
        exact y_vret dX7_takeEnd_43 rfl (by simp only [rend, rend0, c_1, c_2, c_3, eq_self, if_true, not_true_eq_false, not_false_eq_true, if_false, reduceIte])
    · refine z_iconst 1 dX7_takeEnd_17 (by decide) ?_
      refine z_goto 22 dX7_takeEnd_18 (by decide) ?_
      refine z_iconst 1 dX7_takeEnd_22 (by decide) ?_
      refine z_aload_n 0 dX7_takeEnd_23 rfl rfl ?_
      refine y_getI fX7_88 dX7_takeEnd_24 rfl rfl ?_
      refine z_itop (y := (Int32.ofNat (rblk m))) (mset_eq _ _ _ _) ?_
      refine y_Vi [_, _, _] _ kX7_112 c7_want rfl rfl dX7_takeEnd_27 rfl rfl (Nat.le_of_ble_eq_true rfl) (Nat.le_of_ble_eq_true rfl) ⟨Nat.zero_le _, Nat.zero_le _⟩ ?_
      refine z_if_eq 43 dX7_takeEnd_30 (by decide) (fun c_4 => ?_) (fun c_4 => ?_)
      · exact y_vret dX7_takeEnd_43 rfl (by simp only [rend, rend0, c_1, c_2, c_4, eq_self, if_true, not_true_eq_false, not_false_eq_true, if_false, reduceIte])
      · refine z_aload_n 0 dX7_takeEnd_33 rfl rfl ?_
        refine z_dup dX7_takeEnd_34 rfl ?_
        refine y_getI fX7_88 dX7_takeEnd_35 rfl rfl ?_
        refine z_iconst 1 dX7_takeEnd_38 (by decide) ?_
        refine z_iadd dX7_takeEnd_39 ?_
        refine y_putI fX7_88 dX7_takeEnd_40 rfl rfl ?_
        exact y_vret dX7_takeEnd_43 rfl (by simp only [rend, rend0, c_1, c_2, c_4, eq_self, if_true, not_true_eq_false, not_false_eq_true, if_false, reduceIte])
set_option maxRecDepth 100000 in
set_option maxHeartbeats 4000000 in
theorem c7_start {m : zmem} : E0 MX7_start 0 [.ref 57] m (rstart m) := by
  refine E0.of (by decide) (Nat.le_of_ble_eq_true rfl) ?_
  show Z _ 0 [(0, .ref 57)] _ _ _ _
  refine z_aload_n 0 dX7_start_0 rfl rfl ?_
  refine z_iconst 0 dX7_start_1 (by decide) ?_
  refine y_putI fX7_88 dX7_start_2 rfl rfl ?_
  refine z_aload_n 0 dX7_start_5 rfl rfl ?_
  refine z_iconst 0 dX7_start_6 (by decide) ?_
  refine y_putI fX7_91 dX7_start_7 rfl rfl ?_
  refine z_aload_n 0 dX7_start_10 rfl rfl ?_
  refine z_iconst (-1) dX7_start_11 (by decide) ?_
  refine y_putI fX7_45 dX7_start_12 rfl rfl ?_
  exact y_vret dX7_start_15 rfl rfl
set_option maxRecDepth 100000 in
set_option maxHeartbeats 4000000 in
theorem c7_fault {m : zmem} : Ei MX7_fault 0 [.ref 57] m (m 57 17) (m) := by
  refine Ei.of (by decide) (Nat.le_of_ble_eq_true rfl) ?_
  show Z _ 0 [(0, .ref 57)] _ _ _ _
  refine z_aload_n 0 dX7_fault_0 rfl rfl ?_
  refine y_getI fX7_45 dX7_fault_1 rfl rfl ?_
  exact y_iret dX7_fault_4 rfl rfl rfl
