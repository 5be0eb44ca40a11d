set_option maxRecDepth 100000 in
set_option maxHeartbeats 4000000 in
theorem c7_fits {m : zmem} {D Y C L W : Nat} (hI : RI m D Y C L W)  : Ei MX7_fits 3 [.ref 57] m ((rk_fits m D).1) ((rk_fits m D).2) := by
  obtain ⟨hD, hD7, hY, hY8, hC, hC8, hL, hL4, hW, hW20⟩ := id hI
  have h128 := two_D hD7
  have hN := hI.n (W7n.names m D)
  refine Ei.of (by decide) (Nat.le_of_ble_eq_true rfl) ?_
  show Z _ 0 [(0, .ref 57)] _ _ _ _
  refine z_aload_n 0 dX7_fits_0 rfl rfl ?_
  refine y_V0 [] _ kX7_282 (c7_names hI) rfl rfl dX7_fits_1 rfl rfl (Nat.le_of_ble_eq_true rfl) (Nat.le_of_ble_eq_true rfl) ⟨Nat.zero_le _, Nat.zero_le _⟩ ?_
  refine z_aload_n 0 dX7_fits_4 rfl rfl ?_
  refine y_getR fX7_60 dX7_fits_5 rfl rfl ?_
  refine z_iconst 1 dX7_fits_8 (by decide) ?_
  refine z_aload_n 0 dX7_fits_9 rfl rfl ?_
  refine y_getR fX7_36 dX7_fits_10 rfl rfl ?_
  refine z_iconst 1 dX7_fits_13 (by decide) ?_
  refine y_ald (N := 1) dX7_fits_14 rfl rfl (by decide) ?_
  refine z_ishl dX7_fits_15 ?_
  refine z_iconst 1 dX7_fits_16 (by decide) ?_
  refine z_isub dX7_fits_17 ?_
  refine y_ald (N := 2 ^ D - 1) dX7_fits_18 rfl ((congrArg (fun x => (1 : Int32) <<< (x &&& 31) - 1) hN.1).trans (shl_D1 hD7)) (by omega) ?_
  exact y_iret dX7_fits_19 rfl (by simp [rk_fits, ]) (by simp [rk_fits, ])
set_option maxRecDepth 100000 in
set_option maxHeartbeats 4000000 in
theorem c7_mixed {m : zmem} {D Y C L W : Nat} (hI : RI m D Y C L W) {c : Int32} (hE : ¬ rnames m D 71 (2 ^ D - 1) = 0 → ¬ (¬ c = -1 ∧ sin (m 64 1) c = 0) → vp_in c 8 → rmxE (rnames m D) D (c.toNatClampNeg + 1) 0 (Int32.ofNat (2 ^ D - 1))) : Ei MX7_mixed 3 [.ref 57, .int c] m ((rk_mixed m D c).1) ((rk_mixed m D c).2) := by
  obtain ⟨hD, hD7, hY, hY8, hC, hC8, hL, hL4, hW, hW20⟩ := id hI
  have h128 := two_D hD7
  have hN := hI.n (W7n.names m D)
  have hS : (1 : Int32) <<< (rnames m D 64 1 &&& 31) - 1 = Int32.ofNat (2 ^ D - 1) := (congrArg (fun x => (1 : Int32) <<< (x &&& 31) - 1) hN.1).trans (shl_D1 hD7)
  refine Ei.of (by decide) (Nat.le_of_ble_eq_true rfl) ?_
  show Z _ 0 [(0, .ref 57), (1, .int c)] _ _ _ _
  have join16 : c = -1 ∨ vp_in c 8 → ¬ (¬ c = -1 ∧ sin (m 64 1) c = 0) → Z (zMB (Qi ((rk_mixed m D c).1) ((rk_mixed m D c).2)) 3 MX7_mixed) 16 [(0, .ref 57), (1, .int c)] [] (hp m) 0 0 := by
    intro hg hgg
    refine z_aload_n 0 dX7_mixed_16 rfl rfl ?_
    refine y_V0 [] _ kX7_282 (c7_names hI) rfl rfl dX7_mixed_17 rfl rfl (Nat.le_of_ble_eq_true rfl) (Nat.le_of_ble_eq_true rfl) ⟨Nat.zero_le _, Nat.zero_le _⟩ ?_
    refine z_iconst 1 dX7_mixed_20 (by decide) ?_
    refine z_aload_n 0 dX7_mixed_21 rfl rfl ?_
    refine y_getR fX7_36 dX7_mixed_22 rfl rfl ?_
    refine z_iconst 1 dX7_mixed_25 (by decide) ?_
    refine y_ald (N := 1) dX7_mixed_26 rfl rfl (by decide) ?_
    refine z_ishl dX7_mixed_27 ?_
    refine z_iconst 1 dX7_mixed_28 (by decide) ?_
    refine z_isub dX7_mixed_29 ?_
    refine z_itop (y := (Int32.ofNat (2 ^ D - 1))) hS ?_
    refine z_istore_n (lv' := [(2, .int (Int32.ofNat (2 ^ D - 1))), (0, .ref 57), (1, .int c)]) dX7_mixed_30 rfl (Nat.le_of_ble_eq_true rfl) rfl ?_
    refine z_aload_n 1 dX7_mixed_31 rfl rfl ?_
    refine y_getR fX7_60 dX7_mixed_32 rfl rfl ?_
    refine z_iload_n 0 dX7_mixed_35 rfl rfl ?_
    refine y_ald (N := (2 ^ D - 1)) dX7_mixed_36 rfl rfl (by omega) ?_
    refine z_if_ne 42 dX7_mixed_37 (by decide) (fun c_1 => ?_) (fun c_1 => ?_)
    · refine z_iload_n 2 dX7_mixed_42 rfl rfl ?_
      refine z_if_ge 53 dX7_mixed_43 (by decide) (fun c_2 => ?_) (fun c_2 => ?_)
      · have hc8 : vp_in c 8 := by rcases hg with e | e; exact absurd (e ▸ c_2) (by decide); exact e
        have hcn := vl hc8
        have hcv := vp_nn hc8
        refine z_iconst 0 dX7_mixed_53 (by decide) ?_
        refine z_istore_n (lv' := [(3, .int 0), (2, .int (Int32.ofNat (2 ^ D - 1))), (0, .ref 57), (1, .int c)]) dX7_mixed_54 rfl (Nat.le_of_ble_eq_true rfl) rfl ?_
        refine z_iconst 0 dX7_mixed_55 (by decide) ?_
        refine z_istore (lv' := [(4, .int 0), (3, .int 0), (2, .int (Int32.ofNat (2 ^ D - 1))), (0, .ref 57), (1, .int c)]) dX7_mixed_56 (Nat.le_of_ble_eq_true rfl) rfl ?_
        have loop58 : ∀ (q : Nat) (k : Nat) (s : Int32) (nm : Int32), k + q = c.toNatClampNeg + 1 → vp_in s 128 → rmxE (rnames m D) D q k s → rmx (rnames m D) D (c.toNatClampNeg + 1) 0 (Int32.ofNat (2 ^ D - 1)) 0 = rmx (rnames m D) D q k s nm → Z (zMB (Qi ((rk_mixed m D c).1) ((rk_mixed m D c).2)) 3 MX7_mixed) 58 [(0, .ref 57), (1, .int c), (2, .int s), (3, .int nm), (4, .int (Int32.ofNat k))] [] (hp (rnames m D)) 0 0 := by
          intro q
          induction q with
          | zero =>
            intro k s nm hk hs hE2 hr
            refine z_iload 4 dX7_mixed_58 rfl ?_
            refine z_iload_n 1 dX7_mixed_60 rfl rfl ?_
            refine z_icmp_gt 170 dX7_mixed_61 (by decide) (fun c_3 => ?_) (fun c_3 => ?_)
            · refine z_iload_n 3 dX7_mixed_170 rfl rfl ?_
              exact y_iret dX7_mixed_171 rfl (by first | (rw [rk_mixed, if_neg hgg]; simp only [c_1, c_2, c_3, if_true, if_false, reduceIte]; done) | (rw [rk_mixed, if_neg hgg]; simp only [c_1, c_2, c_3, if_true, if_false, reduceIte]; exact hr.symm) | (simp [rk_mixed, c_1, c_2, c_3]; done)) (by first | (rw [rk_mixed, if_neg hgg]; done) | (simp [rk_mixed, c_1, c_2, c_3]; done))
            · exact (dzg hcv (by omega) (by omega) c_3).elim
          | succ q ih58 =>
            intro k s nm hk hs hE2 hr
            refine z_iload 4 dX7_mixed_58 rfl ?_
            refine z_iload_n 1 dX7_mixed_60 rfl rfl ?_
            refine z_icmp_gt 170 dX7_mixed_61 (by decide) (fun c_4 => ?_) (fun c_4 => ?_)
            · exact (dsg hcv (by omega) (by omega) c_4).elim
            · refine z_iconst 0 dX7_mixed_64 (by decide) ?_
              refine z_istore_n (lv' := [(3, .int 0), (0, .ref 57), (1, .int c), (2, .int s), (4, .int (Int32.ofNat k))]) dX7_mixed_65 rfl (Nat.le_of_ble_eq_true rfl) rfl ?_
              have loop66 : ∀ (q2 : Nat) (j : Nat), j + q2 = D → sfind (rmxc (rnames m D) s k) q2 j = rmxn (rnames m D) D s k → Z (zMB (Qi ((rk_mixed m D c).1) ((rk_mixed m D c).2)) 3 MX7_mixed) 66 [(0, .ref 57), (1, .int c), (2, .int s), (3, .int (Int32.ofNat j)), (4, .int (Int32.ofNat k))] [] (hp (rnames m D)) 0 0 := by
                intro q2
                induction q2 with
                | zero =>
                  intro j hj hr2
                  exact (hE2.1 hr2.symm).elim
                | succ q2 ih66 =>
                  intro j hj hr2
                  refine z_iload_n 2 dX7_mixed_66 rfl rfl ?_
                  refine z_iload_n 3 dX7_mixed_67 rfl rfl ?_
                  refine y_Si [_, _] _ kX7_150 c7_has dX7_mixed_68 rfl rfl (Nat.le_of_ble_eq_true rfl) (Nat.le_of_ble_eq_true rfl) ⟨Nat.zero_le _, Nat.zero_le _⟩ ?_
                  refine z_if_eq 150 dX7_mixed_71 (by decide) (fun c_5 => ?_) (fun c_5 => ?_)
                  · obtain ⟨v_6, e_6⟩ : ∃ y : Int32, y = (Int32.ofNat j) + 1 := ⟨_, rfl⟩
                    refine z_iinc (lv' := [(3, .int v_6), (0, .ref 57), (1, .int c), (2, .int s), (4, .int (Int32.ofNat k))]) 3 v_6 dX7_mixed_150 rfl (by rw [e_6]; rfl) (Nat.le_of_ble_eq_true rfl) rfl ?_
                    refine z_goto 66 dX7_mixed_153 (by decide) ?_
                    obtain rfl : v_6 = Int32.ofNat (j + 1) := e_6.trans (nat_succ j)
                    refine z_sub [1,2,3,0,4] rfl ?_
                    exact ih66 (j + 1) (by omega) (by rw [← hr2]; simp only [sfind, rmxc, c_5, eq_self, if_true, not_true_eq_false, not_false_eq_true, and_self, and_true, true_and, and_false, false_and, decide_true, decide_false, Bool.false_eq_true, if_false, reduceIte])
                  · refine z_aload_n 0 dX7_mixed_74 rfl rfl ?_
                    refine y_getR fX7_7 dX7_mixed_75 rfl rfl ?_
                    refine z_bipush 64 dX7_mixed_78 (by decide) ?_
                    refine z_iload 4 dX7_mixed_80 rfl ?_
                    refine z_iadd dX7_mixed_82 ?_
                    refine y_wld (X := 0) (o := 64) (d := Int32.ofNat k) dX7_mixed_83 (wiB (vk (by omega))) (wb (by decide) (vk (by omega)) (by decide)) ?_
                    refine z_iload_n 3 dX7_mixed_84 rfl rfl ?_
                    refine y_Si [_, _] _ kX7_150 c7_has dX7_mixed_85 rfl rfl (Nat.le_of_ble_eq_true rfl) (Nat.le_of_ble_eq_true rfl) ⟨Nat.zero_le _, Nat.zero_le _⟩ ?_
                    refine z_if_eq 150 dX7_mixed_88 (by decide) (fun c_7 => ?_) (fun c_7 => ?_)
                    · obtain ⟨v_8, e_8⟩ : ∃ y : Int32, y = (Int32.ofNat j) + 1 := ⟨_, rfl⟩
                      refine z_iinc (lv' := [(3, .int v_8), (0, .ref 57), (1, .int c), (2, .int s), (4, .int (Int32.ofNat k))]) 3 v_8 dX7_mixed_150 rfl (by rw [e_8]; rfl) (Nat.le_of_ble_eq_true rfl) rfl ?_
                      refine z_goto 66 dX7_mixed_153 (by decide) ?_
                      obtain rfl : v_8 = Int32.ofNat (j + 1) := e_8.trans (nat_succ j)
                      refine z_sub [1,2,3,0,4] rfl ?_
                      exact ih66 (j + 1) (by omega) (by rw [← hr2]; simp only [sfind, rmxc, c_5, c_7, eq_self, if_true, not_true_eq_false, not_false_eq_true, and_self, and_true, true_and, and_false, false_and, decide_true, decide_false, Bool.false_eq_true, if_false, reduceIte])
                    · refine z_aload_n 0 dX7_mixed_91 rfl rfl ?_
                      refine y_getR fX7_60 dX7_mixed_92 rfl rfl ?_
                      refine z_iload_n 2 dX7_mixed_95 rfl rfl ?_
                      refine z_iconst 1 dX7_mixed_96 (by decide) ?_
                      refine z_iload_n 3 dX7_mixed_97 rfl rfl ?_
                      refine z_ishl dX7_mixed_98 ?_
                      refine z_iconst (-1) dX7_mixed_99 (by decide) ?_
                      refine z_ixor dX7_mixed_100 ?_
                      refine z_iand dX7_mixed_101 ?_
                      refine z_itop (y := (rr s j)) rfl ?_
                      refine y_ald (N := (rr s j).toNatClampNeg) dX7_mixed_102 rfl (vp_nn (rr_vp hs j)) (vl4 (rr_vp hs j)) ?_
                      refine z_if_eq 150 dX7_mixed_103 (by decide) (fun c_9 => ?_) (fun c_9 => ?_)
                      · obtain ⟨v_10, e_10⟩ : ∃ y : Int32, y = (Int32.ofNat j) + 1 := ⟨_, rfl⟩
                        refine z_iinc (lv' := [(3, .int v_10), (0, .ref 57), (1, .int c), (2, .int s), (4, .int (Int32.ofNat k))]) 3 v_10 dX7_mixed_150 rfl (by rw [e_10]; rfl) (Nat.le_of_ble_eq_true rfl) rfl ?_
                        refine z_goto 66 dX7_mixed_153 (by decide) ?_
                        obtain rfl : v_10 = Int32.ofNat (j + 1) := e_10.trans (nat_succ j)
                        refine z_sub [1,2,3,0,4] rfl ?_
                        exact ih66 (j + 1) (by omega) (by rw [← hr2]; simp only [sfind, rmxc, c_5, c_7, c_9, eq_self, if_true, not_true_eq_false, not_false_eq_true, and_self, and_true, true_and, and_false, false_and, decide_true, decide_false, Bool.false_eq_true, if_false, reduceIte])
                      · refine z_aload_n 0 dX7_mixed_106 rfl rfl ?_
                        refine y_getR fX7_63 dX7_mixed_107 rfl rfl ?_
                        refine z_iload_n 2 dX7_mixed_110 rfl rfl ?_
                        refine z_iconst 1 dX7_mixed_111 (by decide) ?_
                        refine z_iload_n 3 dX7_mixed_112 rfl rfl ?_
                        refine z_ishl dX7_mixed_113 ?_
                        refine z_iconst (-1) dX7_mixed_114 (by decide) ?_
                        refine z_ixor dX7_mixed_115 ?_
                        refine z_iand dX7_mixed_116 ?_
                        refine z_itop (y := (rr s j)) rfl ?_
                        refine y_ald (N := (rr s j).toNatClampNeg) dX7_mixed_117 rfl (vp_nn (rr_vp hs j)) (vl4 (rr_vp hs j)) ?_
                        refine z_aload_n 0 dX7_mixed_118 rfl rfl ?_
                        refine y_getR fX7_7 dX7_mixed_119 rfl rfl ?_
                        refine z_bipush 56 dX7_mixed_122 (by decide) ?_
                        refine z_iload 4 dX7_mixed_124 rfl ?_
                        refine z_iadd dX7_mixed_126 ?_
                        refine y_wld (X := 0) (o := 56) (d := Int32.ofNat k) dX7_mixed_127 (wiB (vk (by omega))) (wb (by decide) (vk (by omega)) (by decide)) ?_
                        refine z_iload_n 3 dX7_mixed_128 rfl rfl ?_
                        refine z_icmp_eq 136 dX7_mixed_129 (by decide) (fun c_11 => ?_) (fun c_11 => ?_)
                        · refine z_iconst 0 dX7_mixed_136 (by decide) ?_
                          refine y_Si [_] _ kX7_157 (c7_one (by first | exact rlf01 _ _ _ | exact roff01 _ _ _ _ _ | decide)) dX7_mixed_137 rfl rfl (Nat.le_of_ble_eq_true rfl) (Nat.le_of_ble_eq_true rfl) ⟨Nat.zero_le _, Nat.zero_le _⟩ ?_
                          refine z_iadd dX7_mixed_140 ?_
                          refine z_aload_n 0 dX7_mixed_141 rfl rfl ?_
                          refine y_getR fX7_63 dX7_mixed_142 rfl rfl ?_
                          refine z_iload_n 2 dX7_mixed_145 rfl rfl ?_
                          refine y_ald (N := s.toNatClampNeg) dX7_mixed_146 rfl (vp_nn hs) (vl4 hs) ?_
                          refine z_icmp_eq 156 dX7_mixed_147 (by decide) (fun c_12 => ?_) (fun c_12 => ?_)
                          · have hfound : Int32.ofNat j = rmxn (rnames m D) D s k := by rw [← hr2]; simp only [sfind, rmxc, c_1, c_2, c_4, c_5, c_7, c_9, c_11, c_12, eq_self, if_true, not_true_eq_false, not_false_eq_true, and_self, and_true, true_and, and_false, false_and, decide_true, decide_false, Bool.false_eq_true, if_false, reduceIte]
                            clear hr2 ih66
                            refine z_iload_n 2 dX7_mixed_156 rfl rfl ?_
                            refine z_iconst 1 dX7_mixed_157 (by decide) ?_
                            refine z_iload_n 3 dX7_mixed_158 rfl rfl ?_
                            refine z_ishl dX7_mixed_159 ?_
                            refine z_iconst (-1) dX7_mixed_160 (by decide) ?_
                            refine z_ixor dX7_mixed_161 ?_
                            refine z_iand dX7_mixed_162 ?_
                            refine z_topi (fun v_13 e_13 => ?_)
                            refine z_istore_n (lv' := [(2, .int v_13), (0, .ref 57), (1, .int c), (3, .int (Int32.ofNat j)), (4, .int (Int32.ofNat k))]) dX7_mixed_163 rfl (Nat.le_of_ble_eq_true rfl) rfl ?_
                            obtain ⟨v_14, e_14⟩ : ∃ y : Int32, y = (Int32.ofNat k) + 1 := ⟨_, rfl⟩
                            refine z_iinc (lv' := [(4, .int v_14), (2, .int v_13), (0, .ref 57), (1, .int c), (3, .int (Int32.ofNat j))]) 4 v_14 dX7_mixed_164 rfl (by rw [e_14]; rfl) (Nat.le_of_ble_eq_true rfl) rfl ?_
                            refine z_goto 58 dX7_mixed_167 (by decide) ?_
                            obtain rfl : v_14 = Int32.ofNat (k + 1) := e_14.trans (nat_succ k)
                            refine z_sub [2,3,1,4,0] rfl ?_
                            exact ih58 (k + 1) _ _ (by omega) (by simp only [e_13]; exact vp_and hs) (by have h := hE2.2; rw [← hfound] at h; simp only [rmxs, ← e_13] at h; exact h) (hr.trans (by simp only [rmx, ← hfound, rmxs, ← e_13]))
                          · obtain ⟨v_15, e_15⟩ : ∃ y : Int32, y = (Int32.ofNat j) + 1 := ⟨_, rfl⟩
                            refine z_iinc (lv' := [(3, .int v_15), (0, .ref 57), (1, .int c), (2, .int s), (4, .int (Int32.ofNat k))]) 3 v_15 dX7_mixed_150 rfl (by rw [e_15]; rfl) (Nat.le_of_ble_eq_true rfl) rfl ?_
                            refine z_goto 66 dX7_mixed_153 (by decide) ?_
                            obtain rfl : v_15 = Int32.ofNat (j + 1) := e_15.trans (nat_succ j)
                            refine z_sub [1,2,3,0,4] rfl ?_
                            exact ih66 (j + 1) (by omega) (by rw [← hr2]; simp only [sfind, rmxc, c_5, c_7, c_9, c_11, c_12, eq_self, if_true, not_true_eq_false, not_false_eq_true, and_self, and_true, true_and, and_false, false_and, decide_true, decide_false, Bool.false_eq_true, if_false, reduceIte])
                        · refine z_iconst 1 dX7_mixed_132 (by decide) ?_
                          refine z_goto 137 dX7_mixed_133 (by decide) ?_
                          refine y_Si [_] _ kX7_157 (c7_one (by first | exact rlf01 _ _ _ | exact roff01 _ _ _ _ _ | decide)) dX7_mixed_137 rfl rfl (Nat.le_of_ble_eq_true rfl) (Nat.le_of_ble_eq_true rfl) ⟨Nat.zero_le _, Nat.zero_le _⟩ ?_
                          refine z_iadd dX7_mixed_140 ?_
                          refine z_aload_n 0 dX7_mixed_141 rfl rfl ?_
                          refine y_getR fX7_63 dX7_mixed_142 rfl rfl ?_
                          refine z_iload_n 2 dX7_mixed_145 rfl rfl ?_
                          refine y_ald (N := s.toNatClampNeg) dX7_mixed_146 rfl (vp_nn hs) (vl4 hs) ?_
                          refine z_icmp_eq 156 dX7_mixed_147 (by decide) (fun c_16 => ?_) (fun c_16 => ?_)
                          · have hfound : Int32.ofNat j = rmxn (rnames m D) D s k := by rw [← hr2]; simp only [sfind, rmxc, c_1, c_2, c_4, c_5, c_7, c_9, c_11, c_16, eq_self, if_true, not_true_eq_false, not_false_eq_true, and_self, and_true, true_and, and_false, false_and, decide_true, decide_false, Bool.false_eq_true, if_false, reduceIte]
                            clear hr2 ih66
                            refine z_iload_n 2 dX7_mixed_156 rfl rfl ?_
                            refine z_iconst 1 dX7_mixed_157 (by decide) ?_
                            refine z_iload_n 3 dX7_mixed_158 rfl rfl ?_
                            refine z_ishl dX7_mixed_159 ?_
                            refine z_iconst (-1) dX7_mixed_160 (by decide) ?_
                            refine z_ixor dX7_mixed_161 ?_
                            refine z_iand dX7_mixed_162 ?_
                            refine z_topi (fun v_17 e_17 => ?_)
                            refine z_istore_n (lv' := [(2, .int v_17), (0, .ref 57), (1, .int c), (3, .int (Int32.ofNat j)), (4, .int (Int32.ofNat k))]) dX7_mixed_163 rfl (Nat.le_of_ble_eq_true rfl) rfl ?_
                            obtain ⟨v_18, e_18⟩ : ∃ y : Int32, y = (Int32.ofNat k) + 1 := ⟨_, rfl⟩
                            refine z_iinc (lv' := [(4, .int v_18), (2, .int v_17), (0, .ref 57), (1, .int c), (3, .int (Int32.ofNat j))]) 4 v_18 dX7_mixed_164 rfl (by rw [e_18]; rfl) (Nat.le_of_ble_eq_true rfl) rfl ?_
                            refine z_goto 58 dX7_mixed_167 (by decide) ?_
                            obtain rfl : v_18 = Int32.ofNat (k + 1) := e_18.trans (nat_succ k)
                            refine z_sub [2,3,1,4,0] rfl ?_
                            exact ih58 (k + 1) _ _ (by omega) (by simp only [e_17]; exact vp_and hs) (by have h := hE2.2; rw [← hfound] at h; simp only [rmxs, ← e_17] at h; exact h) (hr.trans (by simp only [rmx, ← hfound, rmxs, ← e_17]))
                          · obtain ⟨v_19, e_19⟩ : ∃ y : Int32, y = (Int32.ofNat j) + 1 := ⟨_, rfl⟩
                            refine z_iinc (lv' := [(3, .int v_19), (0, .ref 57), (1, .int c), (2, .int s), (4, .int (Int32.ofNat k))]) 3 v_19 dX7_mixed_150 rfl (by rw [e_19]; rfl) (Nat.le_of_ble_eq_true rfl) rfl ?_
                            refine z_goto 66 dX7_mixed_153 (by decide) ?_
                            obtain rfl : v_19 = Int32.ofNat (j + 1) := e_19.trans (nat_succ j)
                            refine z_sub [1,2,3,0,4] rfl ?_
                            exact ih66 (j + 1) (by omega) (by rw [← hr2]; simp only [sfind, rmxc, c_5, c_7, c_9, c_11, c_16, eq_self, if_true, not_true_eq_false, not_false_eq_true, and_self, and_true, true_and, and_false, false_and, decide_true, decide_false, Bool.false_eq_true, if_false, reduceIte])
              refine z_sub [1,2,3,0,4] rfl ?_
              exact loop66 D 0 (by omega) rfl
        refine z_sub [3,4,2,1,0] rfl ?_
        exact loop58 (c.toNatClampNeg + 1) 0 _ _ (by omega) (vp_k (by omega)) (hE c_1 hgg hc8) rfl
      · refine z_aload_n 1 dX7_mixed_46 rfl rfl ?_
        refine y_getR fX7_63 dX7_mixed_47 rfl rfl ?_
        refine z_iload_n 0 dX7_mixed_50 rfl rfl ?_
        refine y_ald (N := (2 ^ D - 1)) dX7_mixed_51 rfl rfl (by omega) ?_
        exact y_iret dX7_mixed_52 rfl (by first | (rw [rk_mixed, if_neg hgg]; simp only [c_1, c_2, if_true, if_false, reduceIte]; done) | (rw [rk_mixed, if_neg hgg]; simp only [c_1, c_2, if_true, if_false, reduceIte]; exact hr.symm) | (simp [rk_mixed, c_1, c_2]; done)) (by first | (rw [rk_mixed, if_neg hgg]; done) | (simp [rk_mixed, c_1, c_2]; done))
    · refine z_iconst (-1) dX7_mixed_40 (by decide) ?_
      exact y_iret dX7_mixed_41 rfl (by first | (rw [rk_mixed, if_neg hgg]; simp only [c_1, if_true, if_false, reduceIte]; done) | (rw [rk_mixed, if_neg hgg]; simp only [c_1, if_true, if_false, reduceIte]; exact hr.symm) | (simp [rk_mixed, c_1]; done)) (by first | (rw [rk_mixed, if_neg hgg]; done) | (simp [rk_mixed, c_1]; done))
  refine z_iload_n 1 dX7_mixed_0 rfl rfl ?_
  refine z_iconst (-1) dX7_mixed_1 (by decide) ?_
  refine z_icmp_eq 16 dX7_mixed_2 (by decide) (fun c_20 => ?_) (fun c_20 => ?_)
  · refine z_sub [0,1] rfl ?_
    exact join16 (Or.inl c_20) (fun q => q.1 c_20)
  · refine z_aload_n 0 dX7_mixed_5 rfl rfl ?_
    refine z_iload_n 1 dX7_mixed_6 rfl rfl ?_
    refine y_Vi [_] _ kX7_190 (c7_isDead hI) rfl rfl dX7_mixed_7 rfl rfl (Nat.le_of_ble_eq_true rfl) (Nat.le_of_ble_eq_true rfl) ⟨Nat.zero_le _, Nat.zero_le _⟩ ?_
    refine z_if_ne 16 dX7_mixed_10 (by decide) (fun c_21 => ?_) (fun c_21 => ?_)
    · refine z_sub [0,1] rfl ?_
      exact join16 (Or.inr (sin_vp hD (by omega) c_21)) (fun q => c_21 q.2)
    · refine z_ldc (-1000000001) dX7_mixed_13 nX7_186 ?_
      exact y_iret dX7_mixed_15 rfl (by first | (rw [rk_mixed, if_neg hgg]; simp only [c_20, c_21, if_true, if_false, reduceIte]; done) | (rw [rk_mixed, if_neg hgg]; simp only [c_20, c_21, if_true, if_false, reduceIte]; exact hr.symm) | (simp [rk_mixed, c_20, c_21]; done)) (by first | (rw [rk_mixed, if_neg hgg]; done) | (simp [rk_mixed, c_20, c_21]; done))
set_option maxRecDepth 100000 in
set_option maxHeartbeats 4000000 in
theorem c7_churches {m : zmem} {D Y C L W : Nat} (hI : RI m D Y C L W) {w : Int32} : Ei MX7_churches 2 [.ref 57, .int w] m (rk_churches m D w) (m) := by
  obtain ⟨hD, hD7, hY, hY8, hC, hC8, hL, hL4, hW, hW20⟩ := id hI
  obtain ⟨all, hall⟩ : ∃ a, a = rloft m 0 D := ⟨_, rfl⟩
  have hav : vp_in all 128 := hall ▸ loft_vp hD7
  have han := vl hav
  have hae := vp_nn hav
  refine Ei.of (by decide) (Nat.le_of_ble_eq_true rfl) ?_
  show Z _ 0 [(0, .ref 57), (1, .int w)] _ _ _ _
  refine z_iload_n 1 dX7_churches_0 rfl rfl ?_
  refine z_i2l dX7_churches_1 ?_
  refine z_lconst 0 dX7_churches_2 (by decide) ?_
  refine z_lconst 1 dX7_churches_3 (by decide) ?_
  refine y_Si [_, _, _] _ kX7_77 (c7_ini (lo := 0) (hi := 1)) dX7_churches_4 rfl rfl (Nat.le_of_ble_eq_true rfl) (Nat.le_of_ble_eq_true rfl) ⟨Nat.zero_le _, Nat.zero_le _⟩ ?_
  refine z_if_ne 13 dX7_churches_7 (by decide) (fun c_1 => ?_) (fun c_1 => ?_)
  · refine z_aload_n 0 dX7_churches_13 rfl rfl ?_
    refine z_iconst 0 dX7_churches_14 (by decide) ?_
    refine y_Vi [_] _ kX7_175 (c7_loft (X := 0) hI (by decide)) rfl rfl dX7_churches_15 rfl rfl (Nat.le_of_ble_eq_true rfl) (Nat.le_of_ble_eq_true rfl) ⟨Nat.zero_le _, Nat.zero_le _⟩ ?_
    refine z_itop (y := all) hall.symm ?_
    refine z_istore_n (lv' := [(2, .int all), (0, .ref 57), (1, .int w)]) dX7_churches_18 rfl (Nat.le_of_ble_eq_true rfl) rfl ?_
    refine z_iconst 0 dX7_churches_19 (by decide) ?_
    refine z_istore_n (lv' := [(3, .int 0), (2, .int all), (0, .ref 57), (1, .int w)]) dX7_churches_20 rfl (Nat.le_of_ble_eq_true rfl) rfl ?_
    refine z_iconst (-1) dX7_churches_21 (by decide) ?_
    refine z_istore (lv' := [(4, .int (-1)), (3, .int 0), (2, .int all), (0, .ref 57), (1, .int w)]) dX7_churches_22 (Nat.le_of_ble_eq_true rfl) rfl ?_
    refine z_iconst 0 dX7_churches_24 (by decide) ?_
    refine z_istore (lv' := [(5, .int 0), (4, .int (-1)), (3, .int 0), (2, .int all), (0, .ref 57), (1, .int w)]) dX7_churches_25 (Nat.le_of_ble_eq_true rfl) rfl ?_
    have loop27 : ∀ (q : Nat) (k : Nat) (b : Int32) (l : Int32), k + q = all.toNatClampNeg + 1 → sfold (rci m D all) (all.toNatClampNeg + 1) 0 (0, -1) = sfold (rci m D all) q k (b, l) → Z (zMB (Qi (rk_churches m D w) (m)) 2 MX7_churches) 27 [(0, .ref 57), (1, .int w), (2, .int all), (3, .int b), (4, .int l), (5, .int (Int32.ofNat k))] [] (hp m) 0 0 := by
      intro q
      induction q with
      | zero =>
        intro k b l hk hr
        refine z_iload 5 dX7_churches_27 rfl ?_
        refine z_iload_n 2 dX7_churches_29 rfl rfl ?_
        refine z_icmp_gt 148 dX7_churches_30 (by decide) (fun c_2 => ?_) (fun c_2 => ?_)
        · refine z_iload_n 1 dX7_churches_148 rfl rfl ?_
          refine z_if_ne 157 dX7_churches_149 (by decide) (fun c_3 => ?_) (fun c_3 => ?_)
          · refine z_iload_n 3 dX7_churches_157 rfl rfl ?_
            exact y_iret dX7_churches_158 rfl (by first | (simp [rk_churches, c_1, c_2, c_3]; done) | (rw [rk_churches, if_neg c_1, rchs, ← hall, hr]; simp [sfold, c_1, c_2, c_3])) rfl
          · refine z_iload 4 dX7_churches_152 rfl ?_
            refine z_goto 158 dX7_churches_154 (by decide) ?_
            exact y_iret dX7_churches_158 rfl (by first | (simp [rk_churches, c_1, c_2, c_3]; done) | (rw [rk_churches, if_neg c_1, rchs, ← hall, hr]; simp [sfold, c_1, c_2, c_3])) rfl
        · exact (dzg hae (by omega) (by omega) c_2).elim
      | succ q ih27 =>
        intro k b l hk hr
        refine z_iload 5 dX7_churches_27 rfl ?_
        refine z_iload_n 2 dX7_churches_29 rfl rfl ?_
        refine z_icmp_gt 148 dX7_churches_30 (by decide) (fun c_4 => ?_) (fun c_4 => ?_)
        · exact (dsg hae (by omega) (by omega) c_4).elim
        · refine z_iconst 0 dX7_churches_33 (by decide) ?_
          refine z_istore (lv' := [(6, .int 0), (0, .ref 57), (1, .int w), (2, .int all), (3, .int b), (4, .int l), (5, .int (Int32.ofNat k))]) dX7_churches_34 (Nat.le_of_ble_eq_true rfl) rfl ?_
          refine z_iconst 0 dX7_churches_36 (by decide) ?_
          refine z_istore (lv' := [(7, .int 0), (6, .int 0), (0, .ref 57), (1, .int w), (2, .int all), (3, .int b), (4, .int l), (5, .int (Int32.ofNat k))]) dX7_churches_37 (Nat.le_of_ble_eq_true rfl) rfl ?_
          have loop39 : ∀ (q2 : Nat) (j : Nat) (t : Int32), j + q2 = D → sfold (rcs m all k) D 0 0 = sfold (rcs m all k) q2 j t → Z (zMB (Qi (rk_churches m D w) (m)) 2 MX7_churches) 39 [(0, .ref 57), (1, .int w), (2, .int all), (3, .int b), (4, .int l), (5, .int (Int32.ofNat k)), (6, .int t), (7, .int (Int32.ofNat j))] [] (hp m) 0 0 := by
            intro q2
            induction q2 with
            | zero =>
              intro j t hj hr2
              refine z_iload 7 dX7_churches_39 rfl ?_
              refine z_aload_n 0 dX7_churches_41 rfl rfl ?_
              refine y_getR fX7_36 dX7_churches_42 rfl rfl ?_
              refine z_iconst 1 dX7_churches_45 (by decide) ?_
              refine y_ald (N := 1) dX7_churches_46 rfl rfl (by decide) ?_
              refine z_icmp_ge 108 dX7_churches_47 (by decide) (fun c_5 => ?_) (fun c_5 => ?_)
              · refine z_iload 5 dX7_churches_108 rfl ?_
                refine z_iload_n 2 dX7_churches_110 rfl rfl ?_
                refine z_iconst (-1) dX7_churches_111 (by decide) ?_
                refine z_ixor dX7_churches_112 ?_
                refine z_iand dX7_churches_113 ?_
                refine z_if_ne 142 dX7_churches_114 (by decide) (fun c_6 => ?_) (fun c_6 => ?_)
                · obtain ⟨v_7, e_7⟩ : ∃ y : Int32, y = (Int32.ofNat k) + 1 := ⟨_, rfl⟩
                  refine z_iinc (lv' := [(5, .int v_7), (0, .ref 57), (1, .int w), (2, .int all), (3, .int b), (4, .int l), (6, .int t), (7, .int (Int32.ofNat j))]) 5 v_7 dX7_churches_142 rfl (by rw [e_7]; rfl) (Nat.le_of_ble_eq_true rfl) rfl ?_
                  refine z_goto 27 dX7_churches_145 (by decide) ?_
                  obtain rfl : v_7 = Int32.ofNat (k + 1) := e_7.trans (nat_succ k)
                  refine z_sub [1,2,3,4,5,0] rfl ?_
                  exact ih27 (k + 1) _ _ (by omega) (hr.trans (congrArg (sfold _ q (k + 1)) (by first | (simp only [rci, rcsum, hr2, sfold, c_4, c_5, c_6, eq_self, if_true, not_true_eq_false, not_false_eq_true, and_self, and_true, true_and, and_false, false_and, decide_true, decide_false, Bool.false_eq_true, if_false, reduceIte]; done) | (simp only [rci, rcsum, hr2, sfold, c_4, c_5, c_6, eq_self, if_true, not_true_eq_false, not_false_eq_true, and_self, and_true, true_and, and_false, false_and, decide_true, decide_false, Bool.false_eq_true, if_false, reduceIte]; simp only []))))
                · refine z_iload 4 dX7_churches_117 rfl ?_
                  refine z_if_lt 132 dX7_churches_119 (by decide) (fun c_8 => ?_) (fun c_8 => ?_)
                  · refine z_iload 5 dX7_churches_132 rfl ?_
                    refine z_istore_n (lv' := [(3, .int (Int32.ofNat k)), (0, .ref 57), (1, .int w), (2, .int all), (4, .int l), (5, .int (Int32.ofNat k)), (6, .int t), (7, .int (Int32.ofNat j))]) dX7_churches_134 rfl (Nat.le_of_ble_eq_true rfl) rfl ?_
                    refine z_iload 6 dX7_churches_135 rfl ?_
                    refine y_Si [_] _ kX7_242 c7_size dX7_churches_137 rfl rfl (Nat.le_of_ble_eq_true rfl) (Nat.le_of_ble_eq_true rfl) ⟨Nat.zero_le _, Nat.zero_le _⟩ ?_
                    refine z_topi (fun v_9 e_9 => ?_)
                    refine z_istore (lv' := [(4, .int v_9), (3, .int (Int32.ofNat k)), (0, .ref 57), (1, .int w), (2, .int all), (5, .int (Int32.ofNat k)), (6, .int t), (7, .int (Int32.ofNat j))]) dX7_churches_140 (Nat.le_of_ble_eq_true rfl) rfl ?_
                    obtain ⟨v_10, e_10⟩ : ∃ y : Int32, y = (Int32.ofNat k) + 1 := ⟨_, rfl⟩
                    refine z_iinc (lv' := [(5, .int v_10), (4, .int v_9), (3, .int (Int32.ofNat k)), (0, .ref 57), (1, .int w), (2, .int all), (6, .int t), (7, .int (Int32.ofNat j))]) 5 v_10 dX7_churches_142 rfl (by rw [e_10]; rfl) (Nat.le_of_ble_eq_true rfl) rfl ?_
                    refine z_goto 27 dX7_churches_145 (by decide) ?_
                    obtain rfl : v_10 = Int32.ofNat (k + 1) := e_10.trans (nat_succ k)
                    refine z_sub [3,4,5,2,1,0] rfl ?_
                    exact ih27 (k + 1) _ _ (by omega) (hr.trans (congrArg (sfold _ q (k + 1)) (by first | (simp only [rci, rcsum, hr2, sfold, c_4, c_5, c_6, c_8, eq_self, if_true, not_true_eq_false, not_false_eq_true, and_self, and_true, true_and, and_false, false_and, decide_true, decide_false, Bool.false_eq_true, if_false, reduceIte, ← e_9]; done) | (simp only [rci, rcsum, hr2, sfold, c_4, c_5, c_6, c_8, eq_self, if_true, not_true_eq_false, not_false_eq_true, and_self, and_true, true_and, and_false, false_and, decide_true, decide_false, Bool.false_eq_true, if_false, reduceIte]; simp only [e_9]))))
                  · refine z_iload 6 dX7_churches_122 rfl ?_
                    refine y_Si [_] _ kX7_242 c7_size dX7_churches_124 rfl rfl (Nat.le_of_ble_eq_true rfl) (Nat.le_of_ble_eq_true rfl) ⟨Nat.zero_le _, Nat.zero_le _⟩ ?_
                    refine z_iload 4 dX7_churches_127 rfl ?_
                    refine z_icmp_ge 142 dX7_churches_129 (by decide) (fun c_11 => ?_) (fun c_11 => ?_)
                    · obtain ⟨v_12, e_12⟩ : ∃ y : Int32, y = (Int32.ofNat k) + 1 := ⟨_, rfl⟩
                      refine z_iinc (lv' := [(5, .int v_12), (0, .ref 57), (1, .int w), (2, .int all), (3, .int b), (4, .int l), (6, .int t), (7, .int (Int32.ofNat j))]) 5 v_12 dX7_churches_142 rfl (by rw [e_12]; rfl) (Nat.le_of_ble_eq_true rfl) rfl ?_
                      refine z_goto 27 dX7_churches_145 (by decide) ?_
                      obtain rfl : v_12 = Int32.ofNat (k + 1) := e_12.trans (nat_succ k)
                      refine z_sub [1,2,3,4,5,0] rfl ?_
                      exact ih27 (k + 1) _ _ (by omega) (hr.trans (congrArg (sfold _ q (k + 1)) (by first | (simp only [rci, rcsum, hr2, sfold, c_4, c_5, c_6, c_8, c_11, eq_self, if_true, not_true_eq_false, not_false_eq_true, and_self, and_true, true_and, and_false, false_and, decide_true, decide_false, Bool.false_eq_true, if_false, reduceIte]; done) | (simp only [rci, rcsum, hr2, sfold, c_4, c_5, c_6, c_8, c_11, eq_self, if_true, not_true_eq_false, not_false_eq_true, and_self, and_true, true_and, and_false, false_and, decide_true, decide_false, Bool.false_eq_true, if_false, reduceIte]; simp only []))))
                    · refine z_iload 5 dX7_churches_132 rfl ?_
                      refine z_istore_n (lv' := [(3, .int (Int32.ofNat k)), (0, .ref 57), (1, .int w), (2, .int all), (4, .int l), (5, .int (Int32.ofNat k)), (6, .int t), (7, .int (Int32.ofNat j))]) dX7_churches_134 rfl (Nat.le_of_ble_eq_true rfl) rfl ?_
                      refine z_iload 6 dX7_churches_135 rfl ?_
                      refine y_Si [_] _ kX7_242 c7_size dX7_churches_137 rfl rfl (Nat.le_of_ble_eq_true rfl) (Nat.le_of_ble_eq_true rfl) ⟨Nat.zero_le _, Nat.zero_le _⟩ ?_
                      refine z_topi (fun v_13 e_13 => ?_)
                      refine z_istore (lv' := [(4, .int v_13), (3, .int (Int32.ofNat k)), (0, .ref 57), (1, .int w), (2, .int all), (5, .int (Int32.ofNat k)), (6, .int t), (7, .int (Int32.ofNat j))]) dX7_churches_140 (Nat.le_of_ble_eq_true rfl) rfl ?_
                      obtain ⟨v_14, e_14⟩ : ∃ y : Int32, y = (Int32.ofNat k) + 1 := ⟨_, rfl⟩
                      refine z_iinc (lv' := [(5, .int v_14), (4, .int v_13), (3, .int (Int32.ofNat k)), (0, .ref 57), (1, .int w), (2, .int all), (6, .int t), (7, .int (Int32.ofNat j))]) 5 v_14 dX7_churches_142 rfl (by rw [e_14]; rfl) (Nat.le_of_ble_eq_true rfl) rfl ?_
                      refine z_goto 27 dX7_churches_145 (by decide) ?_
                      obtain rfl : v_14 = Int32.ofNat (k + 1) := e_14.trans (nat_succ k)
                      refine z_sub [3,4,5,2,1,0] rfl ?_
                      exact ih27 (k + 1) _ _ (by omega) (hr.trans (congrArg (sfold _ q (k + 1)) (by first | (simp only [rci, rcsum, hr2, sfold, c_4, c_5, c_6, c_8, c_11, eq_self, if_true, not_true_eq_false, not_false_eq_true, and_self, and_true, true_and, and_false, false_and, decide_true, decide_false, Bool.false_eq_true, if_false, reduceIte, ← e_13]; done) | (simp only [rci, rcsum, hr2, sfold, c_4, c_5, c_6, c_8, c_11, eq_self, if_true, not_true_eq_false, not_false_eq_true, and_self, and_true, true_and, and_false, false_and, decide_true, decide_false, Bool.false_eq_true, if_false, reduceIte]; simp only [e_13]))))
              · exact (dz rfl hD (by omega) (by omega) c_5).elim
            | succ q2 ih39 =>
              intro j t hj hr2
              refine z_iload 7 dX7_churches_39 rfl ?_
              refine z_aload_n 0 dX7_churches_41 rfl rfl ?_
              refine y_getR fX7_36 dX7_churches_42 rfl rfl ?_
              refine z_iconst 1 dX7_churches_45 (by decide) ?_
              refine y_ald (N := 1) dX7_churches_46 rfl rfl (by decide) ?_
              refine z_icmp_ge 108 dX7_churches_47 (by decide) (fun c_15 => ?_) (fun c_15 => ?_)
              · exact (ds rfl hD (by omega) (by omega) c_15).elim
              · refine z_iload 6 dX7_churches_50 rfl ?_
                refine z_iload_n 2 dX7_churches_52 rfl rfl ?_
                refine z_iload 7 dX7_churches_53 rfl ?_
                refine y_Si [_, _] _ kX7_150 c7_has dX7_churches_55 rfl rfl (Nat.le_of_ble_eq_true rfl) (Nat.le_of_ble_eq_true rfl) ⟨Nat.zero_le _, Nat.zero_le _⟩ ?_
                refine z_if_eq 98 dX7_churches_58 (by decide) (fun c_16 => ?_) (fun c_16 => ?_)
                · refine z_iconst 0 dX7_churches_98 (by decide) ?_
                  refine z_iadd dX7_churches_99 ?_
                  refine z_topi (fun v_17 e_17 => ?_)
                  refine z_istore (lv' := [(6, .int v_17), (0, .ref 57), (1, .int w), (2, .int all), (3, .int b), (4, .int l), (5, .int (Int32.ofNat k)), (7, .int (Int32.ofNat j))]) dX7_churches_100 (Nat.le_of_ble_eq_true rfl) rfl ?_
                  obtain ⟨v_18, e_18⟩ : ∃ y : Int32, y = (Int32.ofNat j) + 1 := ⟨_, rfl⟩
                  refine z_iinc (lv' := [(7, .int v_18), (6, .int v_17), (0, .ref 57), (1, .int w), (2, .int all), (3, .int b), (4, .int l), (5, .int (Int32.ofNat k))]) 7 v_18 dX7_churches_102 rfl (by rw [e_18]; rfl) (Nat.le_of_ble_eq_true rfl) rfl ?_
                  refine z_goto 39 dX7_churches_105 (by decide) ?_
                  obtain rfl : v_18 = Int32.ofNat (j + 1) := e_18.trans (nat_succ j)
                  refine z_sub [2,3,4,5,6,7,1,0] rfl ?_
                  exact ih39 (j + 1) _ (by omega) (hr2.trans (congrArg (sfold _ q2 (j + 1)) (by simp [rcs, c_15, c_16, e_17])))
                · refine z_iload 5 dX7_churches_61 rfl ?_
                  refine z_iload 7 dX7_churches_63 rfl ?_
                  refine y_Si [_, _] _ kX7_150 c7_has dX7_churches_65 rfl rfl (Nat.le_of_ble_eq_true rfl) (Nat.le_of_ble_eq_true rfl) ⟨Nat.zero_le _, Nat.zero_le _⟩ ?_
                  refine z_if_eq 84 dX7_churches_68 (by decide) (fun c_19 => ?_) (fun c_19 => ?_)
                  · refine z_aload_n 0 dX7_churches_84 rfl rfl ?_
                    refine y_getR fX7_7 dX7_churches_85 rfl rfl ?_
                    refine z_bipush 8 dX7_churches_88 (by decide) ?_
                    refine z_iload 7 dX7_churches_90 rfl ?_
                    refine z_iadd dX7_churches_92 ?_
                    refine y_wld (X := 0) (o := 8) (d := Int32.ofNat j) dX7_churches_93 (wiB (vk (by omega))) (wb (by decide) (vk (by omega)) (by decide)) ?_
                    refine z_ineg dX7_churches_94 ?_
                    refine z_goto 99 dX7_churches_95 (by decide) ?_
                    refine z_iadd dX7_churches_99 ?_
                    refine z_topi (fun v_20 e_20 => ?_)
                    refine z_istore (lv' := [(6, .int v_20), (0, .ref 57), (1, .int w), (2, .int all), (3, .int b), (4, .int l), (5, .int (Int32.ofNat k)), (7, .int (Int32.ofNat j))]) dX7_churches_100 (Nat.le_of_ble_eq_true rfl) rfl ?_
                    obtain ⟨v_21, e_21⟩ : ∃ y : Int32, y = (Int32.ofNat j) + 1 := ⟨_, rfl⟩
                    refine z_iinc (lv' := [(7, .int v_21), (6, .int v_20), (0, .ref 57), (1, .int w), (2, .int all), (3, .int b), (4, .int l), (5, .int (Int32.ofNat k))]) 7 v_21 dX7_churches_102 rfl (by rw [e_21]; rfl) (Nat.le_of_ble_eq_true rfl) rfl ?_
                    refine z_goto 39 dX7_churches_105 (by decide) ?_
                    obtain rfl : v_21 = Int32.ofNat (j + 1) := e_21.trans (nat_succ j)
                    refine z_sub [2,3,4,5,6,7,1,0] rfl ?_
                    exact ih39 (j + 1) _ (by omega) (hr2.trans (congrArg (sfold _ q2 (j + 1)) (by simp [rcs, c_15, c_16, c_19, e_20])))
                  · refine z_aload_n 0 dX7_churches_71 rfl rfl ?_
                    refine y_getR fX7_7 dX7_churches_72 rfl rfl ?_
                    refine z_bipush 8 dX7_churches_75 (by decide) ?_
                    refine z_iload 7 dX7_churches_77 rfl ?_
                    refine z_iadd dX7_churches_79 ?_
                    refine y_wld (X := 0) (o := 8) (d := Int32.ofNat j) dX7_churches_80 (wiB (vk (by omega))) (wb (by decide) (vk (by omega)) (by decide)) ?_
                    refine z_goto 99 dX7_churches_81 (by decide) ?_
                    refine z_iadd dX7_churches_99 ?_
                    refine z_topi (fun v_22 e_22 => ?_)
                    refine z_istore (lv' := [(6, .int v_22), (0, .ref 57), (1, .int w), (2, .int all), (3, .int b), (4, .int l), (5, .int (Int32.ofNat k)), (7, .int (Int32.ofNat j))]) dX7_churches_100 (Nat.le_of_ble_eq_true rfl) rfl ?_
                    obtain ⟨v_23, e_23⟩ : ∃ y : Int32, y = (Int32.ofNat j) + 1 := ⟨_, rfl⟩
                    refine z_iinc (lv' := [(7, .int v_23), (6, .int v_22), (0, .ref 57), (1, .int w), (2, .int all), (3, .int b), (4, .int l), (5, .int (Int32.ofNat k))]) 7 v_23 dX7_churches_102 rfl (by rw [e_23]; rfl) (Nat.le_of_ble_eq_true rfl) rfl ?_
                    refine z_goto 39 dX7_churches_105 (by decide) ?_
                    obtain rfl : v_23 = Int32.ofNat (j + 1) := e_23.trans (nat_succ j)
                    refine z_sub [2,3,4,5,6,7,1,0] rfl ?_
                    exact ih39 (j + 1) _ (by omega) (hr2.trans (congrArg (sfold _ q2 (j + 1)) (by simp [rcs, c_15, c_16, c_19, e_22])))
          refine z_sub [2,3,4,5,6,7,1,0] rfl ?_
          exact loop39 (D) 0 _ (by omega) rfl
    refine z_sub [4,5,3,2,1,0] rfl ?_
    exact loop27 (all.toNatClampNeg + 1) 0 _ _ (by omega) rfl
  · refine z_ldc (-1000000002) dX7_churches_10 nX7_81 ?_
    exact y_iret dX7_churches_12 rfl (by first | (simp [rk_churches, c_1]; done) | (rw [rk_churches, if_neg c_1, rchs, ← hall, hr]; simp [sfold, c_1])) rfl
set_option maxRecDepth 100000 in
set_option maxHeartbeats 4000000 in
theorem c7_write {m : zmem} {D Y C L W : Nat} (hI : RI m D Y C L W) {d i : Int32} : Ei MX7_write 2 [.ref 57, .int d, .int i] m ((rk_write m W d i).1) ((rk_write m W d i).2) := by
  obtain ⟨hD, hD7, hY, hY8, hC, hC8, hL, hL4, hW, hW20⟩ := id hI
  refine Ei.of (by decide) (Nat.le_of_ble_eq_true rfl) ?_
  show Z _ 0 [(0, .ref 57), (1, .int d), (2, .int i)] _ _ _ _
  refine z_aload_n 0 dX7_write_0 rfl rfl ?_
  refine z_iload_n 1 dX7_write_1 rfl rfl ?_
  refine y_Vi [_] _ kX7_190 (c7_isDead hI) rfl rfl dX7_write_2 rfl rfl (Nat.le_of_ble_eq_true rfl) (Nat.le_of_ble_eq_true rfl) ⟨Nat.zero_le _, Nat.zero_le _⟩ ?_
  refine z_if_eq 16 dX7_write_5 (by decide) (fun c_1 => ?_) (fun c_1 => ?_)
  · refine z_ldc (-1000000001) dX7_write_16 nX7_186 ?_
    exact y_iret dX7_write_18 rfl (by simp [rk_write, rwr, mset_eq, mset_cell, c_1]) (by simp [rk_write, rwr, mset_eq, mset_cell, c_1])
  · refine z_aload_n 0 dX7_write_8 rfl rfl ?_
    refine z_iload_n 2 dX7_write_9 rfl rfl ?_
    refine y_Vi [_] _ kX7_182 (c7_isYard hI) rfl rfl dX7_write_10 rfl rfl (Nat.le_of_ble_eq_true rfl) (Nat.le_of_ble_eq_true rfl) ⟨Nat.zero_le _, Nat.zero_le _⟩ ?_
    refine z_if_ne 19 dX7_write_13 (by decide) (fun c_2 => ?_) (fun c_2 => ?_)
    · refine z_aload_n 0 dX7_write_19 rfl rfl ?_
      refine y_getI fX7_147 dX7_write_20 rfl rfl ?_
      refine z_bipush 20 dX7_write_23 (by decide) ?_
      refine z_icmp_ne 31 dX7_write_25 (by decide) (fun c_3 => ?_) (fun c_3 => ?_)
      · refine z_aload_n 0 dX7_write_31 rfl rfl ?_
        refine y_getR fX7_66 dX7_write_32 rfl rfl ?_
        refine z_aload_n 0 dX7_write_35 rfl rfl ?_
        refine y_getI fX7_147 dX7_write_36 rfl rfl ?_
        refine z_iload_n 1 dX7_write_39 rfl rfl ?_
        refine y_ast (N := W) dX7_write_40 rfl hW (by have : W ≠ 20 := fun q => absurd (by rw [hW, q]; rfl) (by assumption : ¬ m 57 30 = 20); omega) ?_
        refine z_aload_n 0 dX7_write_41 rfl rfl ?_
        refine y_getR fX7_69 dX7_write_42 rfl rfl ?_
        refine z_aload_n 0 dX7_write_45 rfl rfl ?_
        refine y_getI fX7_147 dX7_write_46 rfl rfl ?_
        refine z_iload_n 2 dX7_write_49 rfl rfl ?_
        refine y_ast (N := W) dX7_write_50 rfl (by rw [mset_cell (a := 57) _ (by decide)]; exact hW) (by have : W ≠ 20 := fun q => absurd (by rw [hW, q]; rfl) (by assumption : ¬ m 57 30 = 20); omega) ?_
        refine z_aload_n 0 dX7_write_51 rfl rfl ?_
        refine z_dup dX7_write_52 rfl ?_
        refine y_getI fX7_147 dX7_write_53 rfl rfl ?_
        refine z_iconst 1 dX7_write_56 (by decide) ?_
        refine z_iadd dX7_write_57 ?_
        refine y_putI fX7_147 dX7_write_58 rfl rfl ?_
        refine z_aload_n 0 dX7_write_61 rfl rfl ?_
        refine y_getI fX7_147 dX7_write_62 rfl rfl ?_
        exact y_iret dX7_write_65 rfl (by simp [rk_write, rwr, mset_eq, mset_cell, c_1, c_2, c_3]) (by simp [rk_write, rwr, mset_eq, mset_cell, c_1, c_2, c_3])
      · refine z_ldc (-1000000004) dX7_write_28 nX7_85 ?_
        exact y_iret dX7_write_30 rfl (by simp [rk_write, rwr, mset_eq, mset_cell, c_1, c_2, c_3]) (by simp [rk_write, rwr, mset_eq, mset_cell, c_1, c_2, c_3])
    · refine z_ldc (-1000000001) dX7_write_16 nX7_186 ?_
      exact y_iret dX7_write_18 rfl (by simp [rk_write, rwr, mset_eq, mset_cell, c_1, c_2]) (by simp [rk_write, rwr, mset_eq, mset_cell, c_1, c_2])
set_option maxRecDepth 100000 in
set_option maxHeartbeats 4000000 in
theorem c7_tear {m : zmem} : Ei MX7_tear 0 [.ref 57] m ((rk_tear m).1) ((rk_tear m).2) := by
  refine Ei.of (by decide) (Nat.le_of_ble_eq_true rfl) ?_
  show Z _ 0 [(0, .ref 57)] _ _ _ _
  refine z_aload_n 0 dX7_tear_0 rfl rfl ?_
  refine y_getI fX7_147 dX7_tear_1 rfl rfl ?_
  refine z_topi (fun v_1 e_1 => ?_)
  refine z_istore_n (lv' := [(1, .int v_1), (0, .ref 57)]) dX7_tear_4 rfl (Nat.le_of_ble_eq_true rfl) rfl ?_
  refine z_aload_n 1 dX7_tear_5 rfl rfl ?_
  refine z_iconst 0 dX7_tear_6 (by decide) ?_
  refine y_putI fX7_147 dX7_tear_7 rfl rfl ?_
  refine z_iload_n 0 dX7_tear_10 rfl rfl ?_
  exact y_iret dX7_tear_11 rfl (by simp [rk_tear, e_1]) (by simp [rk_tear])
set_option maxRecDepth 100000 in
set_option maxHeartbeats 4000000 in
theorem c7_judge {m : zmem} {D Y C L W : Nat} (hI : RI m D Y C L W) (hB : ∀ k, k < W → vp_in (m 73 k) 8 ∧ vp_in (m 74 k) 8) : Ei MX7_judge 5 [.ref 57] m ((rk_judge m D C W).1) ((rk_judge m D C W).2) := by
  obtain ⟨hD, hD7, hY, hY8, hC, hC8, hL, hL4, hW, hW20⟩ := id hI
  refine Ei.of (by decide) (Nat.le_of_ble_eq_true rfl) ?_
  show Z _ 0 [(0, .ref 57)] _ _ _ _
  refine z_aload_n 0 dX7_judge_0 rfl rfl ?_
  refine z_iconst 0 dX7_judge_1 (by decide) ?_
  refine z_bipush 100 dX7_judge_2 (by decide) ?_
  refine y_V0 [_, _] _ kX7_257 (c7_copy (X := 0) (Y := 100) (by decide) (by decide)) rfl rfl dX7_judge_4 rfl rfl (Nat.le_of_ble_eq_true rfl) (Nat.le_of_ble_eq_true rfl) ⟨Nat.zero_le _, Nat.zero_le _⟩ ?_
  refine z_iconst 0 dX7_judge_7 (by decide) ?_
  refine z_istore_n (lv' := [(1, .int 0), (0, .ref 57)]) dX7_judge_8 rfl (Nat.le_of_ble_eq_true rfl) rfl ?_
  have loop9 : ∀ (q : Nat) (k : Nat) (mm : zmem), k + q = W → rjud D C W 0 (rcopy m 0 100) = rjud D C q k mm → W58 m mm → Z (zMB (Qi ((rk_judge m D C W).1) ((rk_judge m D C W).2)) 5 MX7_judge) 9 [(0, .ref 57), (1, .int (Int32.ofNat k))] [] (hp mm) 0 0 := by
    intro q
    induction q with
    | zero =>
      intro k mm hk hr hw
      refine z_iload_n 1 dX7_judge_9 rfl rfl ?_
      refine z_aload_n 0 dX7_judge_10 rfl rfl ?_
      refine y_getI fX7_147 dX7_judge_11 rfl rfl ?_
      refine z_icmp_ge 92 dX7_judge_14 (by decide) (fun c_1 => ?_) (fun c_1 => ?_)
      · refine z_iconst (-1) dX7_judge_92 (by decide) ?_
        exact y_iret dX7_judge_93 rfl (by first | (rw [rk_judge, hr]; simp [rjud,  c_1]; done) | (rw [rk_judge, hr]; simp only [rjud]; simp [c_1])) (by first | (rw [rk_judge, hr]; simp [rjud,  c_1]; done) | (rw [rk_judge, hr]; simp only [rjud]; simp [c_1]))
      · exact (dz rfl ((hI.w hw).2.2.2.2.2.2.2.2.1) (by omega) (by omega) c_1).elim
    | succ q ih9 =>
      intro k mm hk hr hw
      refine z_iload_n 1 dX7_judge_9 rfl rfl ?_
      refine z_aload_n 0 dX7_judge_10 rfl rfl ?_
      refine y_getI fX7_147 dX7_judge_11 rfl rfl ?_
      refine z_icmp_ge 92 dX7_judge_14 (by decide) (fun c_2 => ?_) (fun c_2 => ?_)
      · exact (ds rfl ((hI.w hw).2.2.2.2.2.2.2.2.1) (by omega) (by omega) c_2).elim
      · refine z_aload_n 0 dX7_judge_17 rfl rfl ?_
        refine y_getR fX7_66 dX7_judge_18 rfl rfl ?_
        refine z_iload_n 1 dX7_judge_21 rfl rfl ?_
        refine y_ald (N := k) dX7_judge_22 rfl rfl (by omega) ?_
        refine z_topi (fun v_3 e_3 => ?_)
        refine z_istore_n (lv' := [(2, .int v_3), (0, .ref 57), (1, .int (Int32.ofNat k))]) dX7_judge_23 rfl (Nat.le_of_ble_eq_true rfl) rfl ?_
        refine z_aload_n 1 dX7_judge_24 rfl rfl ?_
        refine y_getR fX7_69 dX7_judge_25 rfl rfl ?_
        refine z_iload_n 2 dX7_judge_28 rfl rfl ?_
        refine y_ald (N := k) dX7_judge_29 rfl rfl (by omega) ?_
        refine z_topi (fun v_4 e_4 => ?_)
        refine z_istore_n (lv' := [(3, .int v_4), (2, .int v_3), (0, .ref 57), (1, .int (Int32.ofNat k))]) dX7_judge_30 rfl (Nat.le_of_ble_eq_true rfl) rfl ?_
        have hvdd : vp_in v_3 8 := by rw [e_3, hw 73 (by decide)]; exact (hB k (by omega)).1
        have hvii : vp_in v_4 8 := by rw [e_4, hw 74 (by decide)]; exact (hB k (by omega)).2
        refine z_aload_n 2 dX7_judge_31 rfl rfl ?_
        refine z_bipush 100 dX7_judge_32 (by decide) ?_
        refine z_iload_n 1 dX7_judge_34 rfl rfl ?_
        refine y_Vi [_, _] _ kX7_154 (c7_lf (X := 100) (by decide) hvdd) rfl rfl dX7_judge_35 rfl rfl (Nat.le_of_ble_eq_true rfl) (Nat.le_of_ble_eq_true rfl) ⟨Nat.zero_le _, Nat.zero_le _⟩ ?_
        refine z_if_eq 74 dX7_judge_38 (by decide) (fun c_5 => ?_) (fun c_5 => ?_)
        · refine z_iload_n 3 dX7_judge_74 rfl rfl ?_
          exact y_iret dX7_judge_75 rfl (by first | (rw [rk_judge, hr]; simp [rjud, ← e_3, ← e_4, c_2, c_5]; done) | (rw [rk_judge, hr]; simp only [rjud, ← e_3, ← e_4]; simp [c_2, c_5])) (by first | (rw [rk_judge, hr]; simp [rjud, ← e_3, ← e_4, c_2, c_5]; done) | (rw [rk_judge, hr]; simp only [rjud, ← e_3, ← e_4]; simp [c_2, c_5]))
        · refine z_aload_n 2 dX7_judge_41 rfl rfl ?_
          refine z_bipush 100 dX7_judge_42 (by decide) ?_
          refine z_iload_n 0 dX7_judge_44 rfl rfl ?_
          refine y_Vi [_, _] _ kX7_187 (c7_who (X := 100) (hI.w hw) (by decide)) rfl rfl dX7_judge_45 rfl rfl (Nat.le_of_ble_eq_true rfl) (Nat.le_of_ble_eq_true rfl) ⟨Nat.zero_le _, Nat.zero_le _⟩ ?_
          refine z_if_ge 74 dX7_judge_48 (by decide) (fun c_6 => ?_) (fun c_6 => ?_)
          · refine z_iload_n 3 dX7_judge_74 rfl rfl ?_
            exact y_iret dX7_judge_75 rfl (by first | (rw [rk_judge, hr]; simp [rjud, ← e_3, ← e_4, c_2, c_5, c_6]; done) | (rw [rk_judge, hr]; simp only [rjud, ← e_3, ← e_4]; simp [c_2, c_5, c_6])) (by first | (rw [rk_judge, hr]; simp [rjud, ← e_3, ← e_4, c_2, c_5, c_6]; done) | (rw [rk_judge, hr]; simp only [rjud, ← e_3, ← e_4]; simp [c_2, c_5, c_6]))
          · refine z_aload_n 2 dX7_judge_51 rfl rfl ?_
            refine y_getR fX7_7 dX7_judge_52 rfl rfl ?_
            refine z_bipush 100 dX7_judge_55 (by decide) ?_
            refine z_iload_n 0 dX7_judge_57 rfl rfl ?_
            refine z_iadd dX7_judge_58 ?_
            refine y_wld (X := 100) (o := 0) (d := v_4) dX7_judge_59 (wiB hvii) (wb (by decide) hvii (by decide)) ?_
            refine z_if_gt 74 dX7_judge_60 (by decide) (fun c_7 => ?_) (fun c_7 => ?_)
            · refine z_iload_n 3 dX7_judge_74 rfl rfl ?_
              exact y_iret dX7_judge_75 rfl (by first | (rw [rk_judge, hr]; simp [rjud, ← e_3, ← e_4, c_2, c_5, c_6, c_7]; done) | (rw [rk_judge, hr]; simp only [rjud, ← e_3, ← e_4]; simp [c_2, c_5, c_6, c_7])) (by first | (rw [rk_judge, hr]; simp [rjud, ← e_3, ← e_4, c_2, c_5, c_6, c_7]; done) | (rw [rk_judge, hr]; simp only [rjud, ← e_3, ← e_4]; simp [c_2, c_5, c_6, c_7]))
            · refine z_aload_n 2 dX7_judge_63 rfl rfl ?_
              refine z_bipush 100 dX7_judge_64 (by decide) ?_
              refine z_iconst 0 dX7_judge_66 (by decide) ?_
              refine y_Vi [_, _] _ kX7_193 (c7_order (X := 100) (hI.w hw) (by decide)) rfl rfl dX7_judge_67 rfl rfl (Nat.le_of_ble_eq_true rfl) (Nat.le_of_ble_eq_true rfl) ⟨Nat.zero_le _, Nat.zero_le _⟩ ?_
              refine z_iload_n 1 dX7_judge_70 rfl rfl ?_
              refine z_icmp_eq 76 dX7_judge_71 (by decide) (fun c_8 => ?_) (fun c_8 => ?_)
              · refine z_aload_n 2 dX7_judge_76 rfl rfl ?_
                refine z_bipush 100 dX7_judge_77 (by decide) ?_
                refine z_iload_n 1 dX7_judge_79 rfl rfl ?_
                refine z_iload_n 0 dX7_judge_80 rfl rfl ?_
                refine y_Vi [_, _, _] _ kX7_230 (c7_layIn (X := 100) (by decide) hvdd hvii) rfl rfl dX7_judge_81 rfl rfl (Nat.le_of_ble_eq_true rfl) (Nat.le_of_ble_eq_true rfl) ⟨Nat.zero_le _, Nat.zero_le _⟩ ?_
                refine z_topi (fun v_9 e_9 => ?_)
                refine z_istore (lv' := [(4, .int v_9), (3, .int v_4), (2, .int v_3), (0, .ref 57), (1, .int (Int32.ofNat k))]) dX7_judge_84 (Nat.le_of_ble_eq_true rfl) rfl ?_
                obtain ⟨v_10, e_10⟩ : ∃ y : Int32, y = (Int32.ofNat k) + 1 := ⟨_, rfl⟩
                refine z_iinc (lv' := [(1, .int v_10), (4, .int v_9), (3, .int v_4), (2, .int v_3), (0, .ref 57)]) 4 v_10 dX7_judge_86 rfl (by rw [e_10]; rfl) (Nat.le_of_ble_eq_true rfl) rfl ?_
                refine z_goto 9 dX7_judge_89 (by decide) ?_
                obtain rfl : v_10 = Int32.ofNat (k + 1) := e_10.trans (nat_succ k)
                refine z_sub [4,0] rfl ?_
                exact ih9 (k + 1) _ (by omega) (hr.trans (by simp only [rjud, ← e_3, ← e_4, ← e_9]; simp [c_2, c_5, c_6, c_7, c_8])) (hw.tr (W58.lay _ _ _ _))
              · refine z_iload_n 3 dX7_judge_74 rfl rfl ?_
                exact y_iret dX7_judge_75 rfl (by first | (rw [rk_judge, hr]; simp [rjud, ← e_3, ← e_4, c_2, c_5, c_6, c_7, c_8]; done) | (rw [rk_judge, hr]; simp only [rjud, ← e_3, ← e_4]; simp [c_2, c_5, c_6, c_7, c_8])) (by first | (rw [rk_judge, hr]; simp [rjud, ← e_3, ← e_4, c_2, c_5, c_6, c_7, c_8]; done) | (rw [rk_judge, hr]; simp only [rjud, ← e_3, ← e_4]; simp [c_2, c_5, c_6, c_7, c_8]))
  refine z_sub [1,0] rfl ?_
  exact loop9 (W) 0 _ (by omega) rfl (W58.copy m 0 100)
set_option maxRecDepth 100000 in
set_option maxHeartbeats 4000000 in
theorem c7_seed {m : zmem} {v : Int32} : Ei MX7_seed 0 [.ref 57, .int v] m ((rk_seed m v).1) ((rk_seed m v).2) := by
  refine Ei.of (by decide) (Nat.le_of_ble_eq_true rfl) ?_
  show Z _ 0 [(0, .ref 57), (1, .int v)] _ _ _ _
  refine z_iload_n 1 dX7_seed_0 rfl rfl ?_
  refine z_if_ge 7 dX7_seed_1 (by decide) (fun c_1 => ?_) (fun c_1 => ?_)
  · refine z_aload_n 0 dX7_seed_7 rfl rfl ?_
    refine y_getR fX7_7 dX7_seed_8 rfl rfl ?_
    refine z_bipush 73 dX7_seed_11 (by decide) ?_
    refine y_ald (N := 73) dX7_seed_13 rfl rfl (by decide) ?_
    refine z_topi (fun v_2 e_2 => ?_)
    refine z_istore_n (lv' := [(2, .int v_2), (0, .ref 57), (1, .int v)]) dX7_seed_14 rfl (Nat.le_of_ble_eq_true rfl) rfl ?_
    refine z_aload_n 1 dX7_seed_15 rfl rfl ?_
    refine y_getR fX7_7 dX7_seed_16 rfl rfl ?_
    refine z_bipush 73 dX7_seed_19 (by decide) ?_
    refine z_iload_n 2 dX7_seed_21 rfl rfl ?_
    refine y_ast (N := 73) dX7_seed_22 rfl rfl (by decide) ?_
    refine z_iload_n 0 dX7_seed_23 rfl rfl ?_
    exact y_iret dX7_seed_24 rfl (by simp [rk_seed, c_1, e_2]) (by simp [rk_seed, c_1, e_2])
  · refine z_ldc (-1000000002) dX7_seed_4 nX7_81 ?_
    exact y_iret dX7_seed_6 rfl (by simp [rk_seed, c_1]) (by simp [rk_seed, c_1])
set_option maxRecDepth 100000 in
set_option maxHeartbeats 4000000 in
theorem c7_keep {m : zmem} {i : Int32} : Ei MX7_keep 2 [.ref 57, .int i] m ((rk_keep m i).1) ((rk_keep m i).2) := by
  refine Ei.of (by decide) (Nat.le_of_ble_eq_true rfl) ?_
  show Z _ 0 [(0, .ref 57), (1, .int i)] _ _ _ _
  refine z_iload_n 1 dX7_keep_0 rfl rfl ?_
  refine z_i2l dX7_keep_1 ?_
  refine z_lconst 0 dX7_keep_2 (by decide) ?_
  refine z_lconst 1 dX7_keep_3 (by decide) ?_
  refine y_Si [_, _, _] _ kX7_77 (c7_ini (lo := 0) (hi := 1)) dX7_keep_4 rfl rfl (Nat.le_of_ble_eq_true rfl) (Nat.le_of_ble_eq_true rfl) ⟨Nat.zero_le _, Nat.zero_le _⟩ ?_
  refine z_if_ne 13 dX7_keep_7 (by decide) (fun c_1 => ?_) (fun c_1 => ?_)
  · refine z_aload_n 0 dX7_keep_13 rfl rfl ?_
    refine z_iconst 0 dX7_keep_14 (by decide) ?_
    refine z_sipush 200 dX7_keep_15 (by decide) ?_
    refine z_bipush 100 dX7_keep_18 (by decide) ?_
    refine z_iload_n 1 dX7_keep_20 rfl rfl ?_
    refine z_imul dX7_keep_21 ?_
    refine z_iadd dX7_keep_22 ?_
    refine z_itop (y := (Int32.ofNat (200 + 100 * i.toNatClampNeg))) (idx2 (rini_vp (n := 2) (lo := 0) (hi := 1) (by decide) (by decide) c_1)).1 ?_
    refine y_V0 [_, _] _ kX7_257 (c7_copy (X := 0) (by decide) (idx2 (rini_vp (n := 2) (lo := 0) (hi := 1) (by decide) (by decide) c_1)).2) rfl rfl dX7_keep_23 rfl rfl (Nat.le_of_ble_eq_true rfl) (Nat.le_of_ble_eq_true rfl) ⟨Nat.zero_le _, Nat.zero_le _⟩ ?_
    refine z_aload_n 0 dX7_keep_26 rfl rfl ?_
    refine y_getR fX7_13 dX7_keep_27 rfl rfl ?_
    refine z_iload_n 1 dX7_keep_30 rfl rfl ?_
    refine z_iconst 1 dX7_keep_31 (by decide) ?_
    refine y_zast dX7_keep_32 rfl (rini_vp (n := 2) (lo := 0) (hi := 1) (by decide) (by decide) c_1) ?_
    refine z_iconst 1 dX7_keep_33 (by decide) ?_
    exact y_iret dX7_keep_34 rfl (by simp [rk_keep, c_1]) (by first | (simp [rk_keep, c_1]; done) | (simp only [rk_keep, if_neg c_1]; rfl))
  · refine z_ldc (-1000000001) dX7_keep_10 nX7_186 ?_
    exact y_iret dX7_keep_12 rfl (by simp [rk_keep, c_1]) (by first | (simp [rk_keep, c_1]; done) | (simp only [rk_keep, if_neg c_1]; rfl))
set_option maxRecDepth 100000 in
set_option maxHeartbeats 4000000 in
theorem c7_goBack {m : zmem} {i : Int32} : Ei MX7_goBack 2 [.ref 57, .int i] m ((rk_goBack m i).1) ((rk_goBack m i).2) := by
  refine Ei.of (by decide) (Nat.le_of_ble_eq_true rfl) ?_
  show Z _ 0 [(0, .ref 57), (1, .int i)] _ _ _ _
  refine z_iload_n 1 dX7_goBack_0 rfl rfl ?_
  refine z_i2l dX7_goBack_1 ?_
  refine z_lconst 0 dX7_goBack_2 (by decide) ?_
  refine z_lconst 1 dX7_goBack_3 (by decide) ?_
  refine y_Si [_, _, _] _ kX7_77 (c7_ini (lo := 0) (hi := 1)) dX7_goBack_4 rfl rfl (Nat.le_of_ble_eq_true rfl) (Nat.le_of_ble_eq_true rfl) ⟨Nat.zero_le _, Nat.zero_le _⟩ ?_
  refine z_if_ne 13 dX7_goBack_7 (by decide) (fun c_1 => ?_) (fun c_1 => ?_)
  · refine z_aload_n 0 dX7_goBack_13 rfl rfl ?_
    refine y_getR fX7_13 dX7_goBack_14 rfl rfl ?_
    refine z_iload_n 1 dX7_goBack_17 rfl rfl ?_
    refine y_zald dX7_goBack_18 rfl (rini_vp (n := 2) (lo := 0) (hi := 1) (by decide) (by decide) c_1) ?_
    refine z_if_ne 25 dX7_goBack_19 (by decide) (fun c_2 => ?_) (fun c_2 => ?_)
    · refine z_aload_n 0 dX7_goBack_25 rfl rfl ?_
      refine z_sipush 200 dX7_goBack_26 (by decide) ?_
      refine z_bipush 100 dX7_goBack_29 (by decide) ?_
      refine z_iload_n 1 dX7_goBack_31 rfl rfl ?_
      refine z_imul dX7_goBack_32 ?_
      refine z_iadd dX7_goBack_33 ?_
      refine z_itop (y := (Int32.ofNat (200 + 100 * i.toNatClampNeg))) (idx2 (rini_vp (n := 2) (lo := 0) (hi := 1) (by decide) (by decide) c_1)).1 ?_
      refine z_iconst 0 dX7_goBack_34 (by decide) ?_
      refine y_V0 [_, _] _ kX7_257 (c7_copy (Y := 0) (idx2 (rini_vp (n := 2) (lo := 0) (hi := 1) (by decide) (by decide) c_1)).2 (by decide)) rfl rfl dX7_goBack_35 rfl rfl (Nat.le_of_ble_eq_true rfl) (Nat.le_of_ble_eq_true rfl) ⟨Nat.zero_le _, Nat.zero_le _⟩ ?_
      refine z_iconst 1 dX7_goBack_38 (by decide) ?_
      exact y_iret dX7_goBack_39 rfl (by simp [rk_goBack, c_1, c_2]) (by simp [rk_goBack, c_1, c_2])
    · refine z_ldc (-1000000003) dX7_goBack_22 nX7_200 ?_
      exact y_iret dX7_goBack_24 rfl (by simp [rk_goBack, c_1, c_2]) (by simp [rk_goBack, c_1, c_2])
  · refine z_ldc (-1000000001) dX7_goBack_10 nX7_186 ?_
    exact y_iret dX7_goBack_12 rfl (by simp [rk_goBack, c_1]) (by simp [rk_goBack, c_1])
